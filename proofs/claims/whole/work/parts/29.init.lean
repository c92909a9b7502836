set_option maxHeartbeats 4000000 in
set_option maxRecDepth 100000 in
theorem c_init (l : Launch) {G : Gt} {ws : va_W} (sz : Nat) {x : Nat} (hx0 : hp ws x (.inr (3, [.null, .null, .int 0, .int 0, .int 0, .int 0, .int 0, .int 0, .int 0]))) (ad ar : Nat → Nat) : Met l yX5_init wsX5_init ({ frames := 1, cells := 2, slots := 720, locals := 12 } : Room) (Pw G [.ref x] ws sz) (va_Qv (fun (u : va_W) => ∃ sh li, RpX G x sh li ad ar S0 u) (Bw G ws sz) (va_A ws sz)) 2 720 (va_A ws sz) := by
  refine Met_pw (cc := cX5_init) (maxL := 1) (ret := none) (by decide) rfl (Nat.le_of_ble_eq_true rfl) ?_
  intro p e s m below meth c ls hsz S9 hr hlk hnm w hl
  subst hsz
  replace S9 : CallFix p m c cX5_init 1 s _ wsX5_init RX5 := S9
  have hx := S9.1
  have hb := S9.2.1
  have hown := S9.2.2.2.1
  have hts := S9.2.2.2.2
  replace hl : lv_has ls 1 [(0, .ref x)] := hl
  refine lv_aload_n hx hb dX5_init_0 rfl (lv_at hl 0 rfl) ?_
  refine W.objInit hx hb hown (hts (.methodLink RX5 1 objectInit) (by decide +kernel)) (hts (.instanceMethod objectInit) (by decide +kernel)) (hts _ (List.mem_of_getElem? (i := 3) rfl)) rfl (hl.1.trans S9.2.2.1.symm) rfl dX5_init_1 (Nat.le_of_ble_eq_true rfl) (Nat.le_of_ble_eq_true rfl) ?_
  refine W.eq (g2 := F0 m 4 ls []) rfl ?_
  refine lv_aload_n hx hb dX5_init_4 rfl (lv_at hl 0 rfl) ?_
  refine lv_sipush (v := 400) hx hb dX5_init_5 (by decide) ?_
  refine r_newT S9 w (by decide +kernel) (by decide) (N := 400) rfl (by decide) (Nat.le_of_ble_eq_true rfl) (Nat.le_of_ble_eq_true rfl) dX5_init_8 (fun sh ws1 H1 fr1 u1 w1 => ?_)
  have nxsh : x ≠ sh := fun z => fr1 _ (by rw [← z]; exact hx0)
  have nshx := nxsh.symm
  have x_1 : hp ws1 x (.inr (3, [.null, .null, .int 0, .int 0, .int 0, .int 0, .int 0, .int 0, .int 0])) := u1.keep nxsh hx0
  refine r_putF S9 w1 hnm x_1 rfl (by decide +kernel) tyX5_ok nmX5 0 (by decide) (by decide +kernel) rfl rfl rfl rfl (Nat.le_of_ble_eq_true rfl) dX5_init_11 (fun ws2 H2 lc2 u2 w2 => ?_)
  have x_2 : hp ws2 x (.inr (3, [.ref sh, .null, .int 0, .int 0, .int 0, .int 0, .int 0, .int 0, .int 0])) := u2.1
  have sh_2 : hp ws2 sh (aT G 400 (fun _ => none)) := u2.keep nshx u1.1
  refine lv_aload_n hx hb dX5_init_14 rfl (lv_at hl 0 rfl) ?_
  refine lv_sipush (v := 320) hx hb dX5_init_15 (by decide) ?_
  refine r_newI S9 w2 (by decide +kernel) (by decide) (N := 320) rfl (by decide) (Nat.le_of_ble_eq_true rfl) (Nat.le_of_ble_eq_true rfl) dX5_init_18 (fun li ws3 H3 fr3 u3 w3 => ?_)
  have nxli : x ≠ li := fun z => fr3 _ (by rw [← z]; exact x_2)
  have nlix := nxli.symm
  have nshli : sh ≠ li := fun z => fr3 _ (by rw [← z]; exact sh_2)
  have nlish := nshli.symm
  have x_3 : hp ws3 x (.inr (3, [.ref sh, .null, .int 0, .int 0, .int 0, .int 0, .int 0, .int 0, .int 0])) := u3.keep nxli x_2
  have sh_3 : hp ws3 sh (aT G 400 (fun _ => none)) := u3.keep nshli sh_2
  refine r_putF S9 w3 hnm x_3 rfl (by decide +kernel) tyX5_ok nmX5 1 (by decide) (by decide +kernel) rfl rfl rfl rfl (Nat.le_of_ble_eq_true rfl) dX5_init_20 (fun ws4 H4 lc4 u4 w4 => ?_)
  have x_4 : hp ws4 x (.inr (3, [.ref sh, .ref li, .int 0, .int 0, .int 0, .int 0, .int 0, .int 0, .int 0])) := u4.1
  have sh_4 : hp ws4 sh (aT G 400 (fun _ => none)) := u4.keep nshx sh_3
  have li_4 : hp ws4 li (aI G 320 (fun _ => 0)) := u4.keep nlix u3.1
  refine lv_aload_n hx hb dX5_init_23 rfl (lv_at hl 0 rfl) ?_
  refine lv_iconst (v := 0) hx hb dX5_init_24 (by decide) ?_
  refine r_put (ref := "SpanMover") S9 w4 x_4 rfl (by decide +kernel) tyX5_ok nmX5 2 (by decide) (by decide +kernel) (Or.inl rfl) rfl rfl rfl (Nat.le_of_ble_eq_true rfl) dX5_init_25 (fun ws5 H5 lc5 u5 w5 => ?_)
  have x_5 : hp ws5 x (.inr (3, [.ref sh, .ref li, .int 0, .int 0, .int 0, .int 0, .int 0, .int 0, .int 0])) := u5.1
  have sh_5 : hp ws5 sh (aT G 400 (fun _ => none)) := u5.keep nshx sh_4
  have li_5 : hp ws5 li (aI G 320 (fun _ => 0)) := u5.keep nlix li_4
  refine lv_aload_n hx hb dX5_init_28 rfl (lv_at hl 0 rfl) ?_
  refine lv_ldc (v := 60000) hx hb hown (hts (.constant RX5 23 (60000)) (by decide +kernel)) dX5_init_29 ?_
  refine r_put (ref := "SpanMover") S9 w5 x_5 rfl (by decide +kernel) tyX5_ok nmX5 3 (by decide) (by decide +kernel) (Or.inl rfl) rfl rfl rfl (Nat.le_of_ble_eq_true rfl) dX5_init_31 (fun ws6 H6 lc6 u6 w6 => ?_)
  have x_6 : hp ws6 x (.inr (3, [.ref sh, .ref li, .int 0, .int 60000, .int 0, .int 0, .int 0, .int 0, .int 0])) := u6.1
  have sh_6 : hp ws6 sh (aT G 400 (fun _ => none)) := u6.keep nshx sh_5
  have li_6 : hp ws6 li (aI G 320 (fun _ => 0)) := u6.keep nlix li_5
  refine lv_aload_n hx hb dX5_init_34 rfl (lv_at hl 0 rfl) ?_
  refine lv_iconst (v := 0) hx hb dX5_init_35 (by decide) ?_
  refine r_put (ref := "SpanMover") S9 w6 x_6 rfl (by decide +kernel) tyX5_ok nmX5 4 (by decide) (by decide +kernel) (Or.inl rfl) rfl rfl rfl (Nat.le_of_ble_eq_true rfl) dX5_init_36 (fun ws7 H7 lc7 u7 w7 => ?_)
  have x_7 : hp ws7 x (.inr (3, [.ref sh, .ref li, .int 0, .int 60000, .int 0, .int 0, .int 0, .int 0, .int 0])) := u7.1
  have sh_7 : hp ws7 sh (aT G 400 (fun _ => none)) := u7.keep nshx sh_6
  have li_7 : hp ws7 li (aI G 320 (fun _ => 0)) := u7.keep nlix li_6
  refine lv_aload_n hx hb dX5_init_39 rfl (lv_at hl 0 rfl) ?_
  refine lv_iconst (v := 0) hx hb dX5_init_40 (by decide) ?_
  refine r_put (ref := "SpanMover") S9 w7 x_7 rfl (by decide +kernel) tyX5_ok nmX5 5 (by decide) (by decide +kernel) (Or.inl rfl) rfl rfl rfl (Nat.le_of_ble_eq_true rfl) dX5_init_41 (fun ws8 H8 lc8 u8 w8 => ?_)
  have x_8 : hp ws8 x (.inr (3, [.ref sh, .ref li, .int 0, .int 60000, .int 0, .int 0, .int 0, .int 0, .int 0])) := u8.1
  have sh_8 : hp ws8 sh (aT G 400 (fun _ => none)) := u8.keep nshx sh_7
  have li_8 : hp ws8 li (aI G 320 (fun _ => 0)) := u8.keep nlix li_7
  refine lv_aload_n hx hb dX5_init_44 rfl (lv_at hl 0 rfl) ?_
  refine lv_iconst (v := 0) hx hb dX5_init_45 (by decide) ?_
  refine r_put (ref := "SpanMover") S9 w8 x_8 rfl (by decide +kernel) tyX5_ok nmX5 6 (by decide) (by decide +kernel) (Or.inl rfl) rfl rfl rfl (Nat.le_of_ble_eq_true rfl) dX5_init_46 (fun ws9 H9 lc9 u9 w9 => ?_)
  have x_9 : hp ws9 x (.inr (3, [.ref sh, .ref li, .int 0, .int 60000, .int 0, .int 0, .int 0, .int 0, .int 0])) := u9.1
  have sh_9 : hp ws9 sh (aT G 400 (fun _ => none)) := u9.keep nshx sh_8
  have li_9 : hp ws9 li (aI G 320 (fun _ => 0)) := u9.keep nlix li_8
  refine lv_aload_n hx hb dX5_init_49 rfl (lv_at hl 0 rfl) ?_
  refine lv_iconst (v := 0) hx hb dX5_init_50 (by decide) ?_
  refine r_put (ref := "SpanMover") S9 w9 x_9 rfl (by decide +kernel) tyX5_ok nmX5 7 (by decide) (by decide +kernel) (Or.inl rfl) rfl rfl rfl (Nat.le_of_ble_eq_true rfl) dX5_init_51 (fun ws10 H10 lc10 u10 w10 => ?_)
  have x_10 : hp ws10 x (.inr (3, [.ref sh, .ref li, .int 0, .int 60000, .int 0, .int 0, .int 0, .int 0, .int 0])) := u10.1
  have sh_10 : hp ws10 sh (aT G 400 (fun _ => none)) := u10.keep nshx sh_9
  have li_10 : hp ws10 li (aI G 320 (fun _ => 0)) := u10.keep nlix li_9
  refine lv_aload_n hx hb dX5_init_54 rfl (lv_at hl 0 rfl) ?_
  refine lv_iconst (v := 0) hx hb dX5_init_55 (by decide) ?_
  refine r_put (ref := "SpanMover") S9 w10 x_10 rfl (by decide +kernel) tyX5_ok nmX5 8 (by decide) (by decide +kernel) (Or.inl rfl) rfl rfl rfl (Nat.le_of_ble_eq_true rfl) dX5_init_56 (fun ws11 H11 lc11 u11 w11 => ?_)
  have x_11 : hp ws11 x (.inr (3, [.ref sh, .ref li, .int 0, .int 60000, .int 0, .int 0, .int 0, .int 0, .int 0])) := u11.1
  have sh_11 : hp ws11 sh (aT G 400 (fun _ => none)) := u11.keep nshx sh_10
  have li_11 : hp ws11 li (aI G 320 (fun _ => 0)) := u11.keep nlix li_10
  exact ew_v S9 hr hlk w11 (⟨sh, li, x_11, sh_11, li_11, (fun h o q => by cases q), (fun h h2 o o2 q => by cases q), (fun h o q => by cases q)⟩) dX5_init_59 (by decide) (by decide)
