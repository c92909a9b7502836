section MPUB0
variable {p : Program} {l : Launch} {e : Env} {R : Room} {s : State} {m : MethodId} {args : Array Value} {below : List Frame} {meth : Method} {c : Code} {H : Heap} {locs : List Loc} {cells slots : Nat} {Q : State → Prop}
variable {cc : ByteArray} {nL pc : Nat} {ls : Array Slot} {rest st0 : List Value} {Ts : List Cond} {G : Gt} {A : Nat → Prop} {ws : va_W} {x ha at_ li : Nat} {S : St}
theorem kx_in (S9 : CallFix p m c cc nL s args Ts RX6) (w : Wd G A s ws H locs) (hR : RpM G x ha at_ li S ws) (hI : Inv S) {i : Int32} (hg : GoodIn Ts (wsV RX6 50 RX6 yX6_in wsX6_in)) (hsz : ls.size = nL) (hro : (rest.map fun v => v.category).sum ≤ 8) (hdg : decode cc pc = .ok (.invokevirtual 50, 3)) (hR0 : 2 ≤ R.frames ∧ 41 ≤ R.locals) (hf : cells ≤ R.cells ∧ slots ≤ R.slots)
    (kn : itm S i = none → W p l e R s m args below meth c H locs cells slots Q (F0 m (pc + 3) ls (.int (-1) :: rest))) (ks : ∀ (h : Nat) (o : Ob), itm S i = some h → s_o S h = some o → W p l e R s m args below meth c H locs cells slots Q (F0 m (pc + 3) ls (.int (nI h) :: rest))) : W p l e R s m args below meth c H locs cells slots Q (F0 m pc ls (.int i :: .ref x :: rest)) := by
  obtain ⟨hf0, af, m1, -⟩ := id hR
  refine k_vi S9 w (c_min l _ hR i) m1 rfl (cwV 1 S9.2.2.2.2 hg rfl rfl rfl (by decide +kernel) hR0) rfl hsz rfl hro hdg hf (fun r hr => ?_)
  subst hr
  cases hi : itm S i with
  | none => exact kn hi
  | some h =>
    obtain ⟨o, ho⟩ := itm_o hI hi
    exact ks h o hi ho
end MPUB0
theorem loV_thg {o : Ob} (h : 7 ≤ o_k o) : loV o = o_v o := by
  unfold loV
  rw [if_pos h]
set_option maxHeartbeats 4000000 in
set_option maxRecDepth 100000 in
theorem c_mkindOf (l : Launch) {G : Gt} {ws : va_W} (sz : Nat) {x ha at_ li : Nat} {S : St} (hR : RpM G x ha at_ li S ws) (hI : Inv S) (pl : Int32) : Met l yX6_kindOf wsX6_kindOf ({ frames := 2, cells := 0, slots := 0, locals := 41 } : Room) (Pw G [.ref x, .int pl] ws sz) (vp_Si (fun r : Int32 => r = sp_kindOf S pl)) 0 0 (fun _ => False) := by
  refine Met_pw (cc := cX6_kindOf) (maxL := 2) (ret := (some .int)) (by decide) rfl (Nat.le_of_ble_eq_true rfl) ?_
  intro p e s m below meth c ls hsz S9 hr hlk hnm w hl
  subst hsz
  replace S9 : CallFix p m c cX6_kindOf 2 s _ wsX6_kindOf RX6 := S9
  have hx := S9.1
  have hb := S9.2.1
  have hown := S9.2.2.2.1
  have hts := S9.2.2.2.2
  replace hl : lv_has ls 2 [(0, .ref x), (1, .int pl)] := hl
  obtain ⟨hf, af, hR1, -⟩ := id hR
  refine lv_aload_n hx hb dX6_kindOf_0 rfl (lv_at hl 0 rfl) ?_
  refine lv_iload_n hx hb dX6_kindOf_1 rfl (lv_at hl 1 rfl) ?_
  refine kx_in S9 w hR hI gX6_kindOf_X6_in hl.1 (Nat.le_of_ble_eq_true rfl) dX6_kindOf_2 ⟨Nat.le_of_ble_eq_true rfl, Nat.le_of_ble_eq_true rfl⟩ ⟨Nat.le_of_ble_eq_true rfl, Nat.le_of_ble_eq_true rfl⟩ (fun i_2 => ?_) (fun h o i_2 ho => ?_)
  · refine lv_if_ge (tgt := 12) hx hb dX6_kindOf_5 (by decide) (fun c_5 => absurd c_5 (by decide)) (fun c_5 => ?_)
    refine lv_iconst (v := (-1)) hx hb dX6_kindOf_8 (by decide) ?_
    refine lv_goto (tgt := 21) hx hb dX6_kindOf_9 (by decide) ?_
    exact e_i S9 hr hlk (by simp [sp_kindOf, obj_none i_2]) dX6_kindOf_21
  · refine lv_if_ge (tgt := 12) hx hb dX6_kindOf_5 (by decide) (fun c_5 => ?_) (fun c_5 => absurd (nI_pos' (by have := hI.hd ho; omega)) c_5)
    refine lv_aload_n hx hb dX6_kindOf_12 rfl (lv_at hl 0 rfl) ?_
    refine lv_aload_n hx hb dX6_kindOf_13 rfl (lv_at hl 0 rfl) ?_
    refine lv_iload_n hx hb dX6_kindOf_14 rfl (lv_at hl 1 rfl) ?_
    refine k_vi S9 w (c_min l _ hR pl) hR1 rfl (cwV 1 hts gX6_kindOf_X6_in rfl rfl rfl (by decide +kernel) ⟨Nat.le_of_ble_eq_true rfl, Nat.le_of_ble_eq_true rfl⟩) rfl hl.1 rfl (Nat.le_of_ble_eq_true rfl) dX6_kindOf_15 ⟨Nat.le_of_ble_eq_true rfl, Nat.le_of_ble_eq_true rfl⟩ (fun r1 er1 => ?_)
    rw [i_2] at er1
    replace er1 : r1 = nI h := er1
    subst er1
    refine k_vi S9 w (c_mkind l _ hR hI ho) hR1 rfl (cwV 1 hts gX6_kindOf_X6_kind rfl rfl rfl (by decide +kernel) ⟨Nat.le_of_ble_eq_true rfl, Nat.le_of_ble_eq_true rfl⟩) rfl hl.1 rfl (Nat.le_of_ble_eq_true rfl) dX6_kindOf_18 ⟨Nat.le_of_ble_eq_true rfl, Nat.le_of_ble_eq_true rfl⟩ (fun r2 er2 => ?_)
    subst er2
    exact e_i S9 hr hlk (by simp [sp_kindOf, obj_some i_2 ho]) dX6_kindOf_21

set_option maxHeartbeats 4000000 in
set_option maxRecDepth 100000 in
theorem c_mlength (l : Launch) {G : Gt} {ws : va_W} (sz : Nat) {x ha at_ li : Nat} {S : St} (hR : RpM G x ha at_ li S ws) (hI : Inv S) (pl : Int32) : Met l yX6_length wsX6_length ({ frames := 2, cells := 0, slots := 0, locals := 42 } : Room) (Pw G [.ref x, .int pl] ws sz) (vp_Si (fun r : Int32 => r = sp_length S pl)) 0 0 (fun _ => False) := by
  refine Met_pw (cc := cX6_length) (maxL := 3) (ret := (some .int)) (by decide) rfl (Nat.le_of_ble_eq_true rfl) ?_
  intro p e s m below meth c ls hsz S9 hr hlk hnm w hl
  subst hsz
  replace S9 : CallFix p m c cX6_length 3 s _ wsX6_length RX6 := S9
  have hx := S9.1
  have hb := S9.2.1
  have hown := S9.2.2.2.1
  have hts := S9.2.2.2.2
  replace hl : lv_has ls 3 [(0, .ref x), (1, .int pl)] := hl
  obtain ⟨hf, af, hR1, -⟩ := id hR
  refine lv_aload_n hx hb dX6_length_0 rfl (lv_at hl 0 rfl) ?_
  refine lv_iload_n hx hb dX6_length_1 rfl (lv_at hl 1 rfl) ?_
  refine kx_in S9 w hR hI gX6_length_X6_in hl.1 (Nat.le_of_ble_eq_true rfl) dX6_length_2 ⟨Nat.le_of_ble_eq_true rfl, Nat.le_of_ble_eq_true rfl⟩ ⟨Nat.le_of_ble_eq_true rfl, Nat.le_of_ble_eq_true rfl⟩ (fun i_2 => ?_) (fun h o i_2 ho => ?_)
  · refine lv_istore_n (lv' := [(2, .int (-1)), (0, .ref x), (1, .int pl)]) hx hb dX6_length_5 rfl hl (by decide) rfl (fun ls hl => ?_)
    refine lv_iload_n hx hb dX6_length_6 rfl (lv_at hl 0 rfl) ?_
    refine lv_if_ge (tgt := 12) hx hb dX6_length_7 (by decide) (fun c_7 => absurd c_7 (by decide)) (fun c_7 => ?_)
    refine lv_iconst (v := (-1)) hx hb dX6_length_10 (by decide) ?_
    exact e_i S9 hr hlk (by simp [sp_length, obj_none i_2]) dX6_length_11
  · rcases (show o_k o ≤ 3 ∨ (4 ≤ o_k o ∧ o_k o ≤ 6) ∨ 7 ≤ o_k o by omega) with hk | ⟨hk, hm⟩ | hk
    · refine lv_istore_n (lv' := [(2, .int (nI h)), (0, .ref x), (1, .int pl)]) hx hb dX6_length_5 rfl hl (by decide) rfl (fun ls hl => ?_)
      refine lv_iload_n hx hb dX6_length_6 rfl (lv_at hl 0 rfl) ?_
      refine lv_if_ge (tgt := 12) hx hb dX6_length_7 (by decide) (fun c_7 => ?_) (fun c_7 => absurd (nI_pos' (by have := hI.hd ho; omega)) c_7)
      refine lv_aload_n hx hb dX6_length_12 rfl (lv_at hl 1 rfl) ?_
      refine lv_iload_n hx hb dX6_length_13 rfl (lv_at hl 0 rfl) ?_
      refine k_vi S9 w (c_misThing l _ hR hI ho) hR1 rfl (cwV 1 hts gX6_length_X6_isThing rfl rfl rfl (by decide +kernel) ⟨Nat.le_of_ble_eq_true rfl, Nat.le_of_ble_eq_true rfl⟩) rfl hl.1 rfl (Nat.le_of_ble_eq_true rfl) dX6_length_14 ⟨Nat.le_of_ble_eq_true rfl, Nat.le_of_ble_eq_true rfl⟩ (fun r1 er1 => ?_)
      rw [if_neg (by omega)] at er1
      subst er1
      refine lv_if_eq (tgt := 25) hx hb dX6_length_17 (by decide) (fun c_17 => ?_) (fun c_17 => absurd c_17 (by decide))
      refine lv_aload_n hx hb dX6_length_25 rfl (lv_at hl 1 rfl) ?_
      refine lv_iload_n hx hb dX6_length_26 rfl (lv_at hl 0 rfl) ?_
      refine k_vi S9 w (c_mlow l _ hR hI ho) hR1 rfl (cwV 1 hts gX6_length_X6_low rfl rfl rfl (by decide +kernel) ⟨Nat.le_of_ble_eq_true rfl, Nat.le_of_ble_eq_true rfl⟩) rfl hl.1 rfl (Nat.le_of_ble_eq_true rfl) dX6_length_27 ⟨Nat.le_of_ble_eq_true rfl, Nat.le_of_ble_eq_true rfl⟩ (fun r2 er2 => ?_)
      rw [loV_row (by omega)] at er2
      subst er2
      exact e_i S9 hr hlk (by simp [sp_length, obj_some i_2 ho, show ¬ 7 ≤ o_k o by omega]) dX6_length_30
    · refine lv_istore_n (lv' := [(2, .int (nI h)), (0, .ref x), (1, .int pl)]) hx hb dX6_length_5 rfl hl (by decide) rfl (fun ls hl => ?_)
      refine lv_iload_n hx hb dX6_length_6 rfl (lv_at hl 0 rfl) ?_
      refine lv_if_ge (tgt := 12) hx hb dX6_length_7 (by decide) (fun c_7 => ?_) (fun c_7 => absurd (nI_pos' (by have := hI.hd ho; omega)) c_7)
      refine lv_aload_n hx hb dX6_length_12 rfl (lv_at hl 1 rfl) ?_
      refine lv_iload_n hx hb dX6_length_13 rfl (lv_at hl 0 rfl) ?_
      refine k_vi S9 w (c_misThing l _ hR hI ho) hR1 rfl (cwV 1 hts gX6_length_X6_isThing rfl rfl rfl (by decide +kernel) ⟨Nat.le_of_ble_eq_true rfl, Nat.le_of_ble_eq_true rfl⟩) rfl hl.1 rfl (Nat.le_of_ble_eq_true rfl) dX6_length_14 ⟨Nat.le_of_ble_eq_true rfl, Nat.le_of_ble_eq_true rfl⟩ (fun r3 er3 => ?_)
      rw [if_neg (by omega)] at er3
      subst er3
      refine lv_if_eq (tgt := 25) hx hb dX6_length_17 (by decide) (fun c_17 => ?_) (fun c_17 => absurd c_17 (by decide))
      refine lv_aload_n hx hb dX6_length_25 rfl (lv_at hl 1 rfl) ?_
      refine lv_iload_n hx hb dX6_length_26 rfl (lv_at hl 0 rfl) ?_
      refine k_vi S9 w (c_mlow l _ hR hI ho) hR1 rfl (cwV 1 hts gX6_length_X6_low rfl rfl rfl (by decide +kernel) ⟨Nat.le_of_ble_eq_true rfl, Nat.le_of_ble_eq_true rfl⟩) rfl hl.1 rfl (Nat.le_of_ble_eq_true rfl) dX6_length_27 ⟨Nat.le_of_ble_eq_true rfl, Nat.le_of_ble_eq_true rfl⟩ (fun r4 er4 => ?_)
      rw [loV_row (by omega)] at er4
      subst er4
      exact e_i S9 hr hlk (by simp [sp_length, obj_some i_2 ho, show ¬ 7 ≤ o_k o by omega]) dX6_length_30
    · refine lv_istore_n (lv' := [(2, .int (nI h)), (0, .ref x), (1, .int pl)]) hx hb dX6_length_5 rfl hl (by decide) rfl (fun ls hl => ?_)
      refine lv_iload_n hx hb dX6_length_6 rfl (lv_at hl 0 rfl) ?_
      refine lv_if_ge (tgt := 12) hx hb dX6_length_7 (by decide) (fun c_7 => ?_) (fun c_7 => absurd (nI_pos' (by have := hI.hd ho; omega)) c_7)
      refine lv_aload_n hx hb dX6_length_12 rfl (lv_at hl 1 rfl) ?_
      refine lv_iload_n hx hb dX6_length_13 rfl (lv_at hl 0 rfl) ?_
      refine k_vi S9 w (c_misThing l _ hR hI ho) hR1 rfl (cwV 1 hts gX6_length_X6_isThing rfl rfl rfl (by decide +kernel) ⟨Nat.le_of_ble_eq_true rfl, Nat.le_of_ble_eq_true rfl⟩) rfl hl.1 rfl (Nat.le_of_ble_eq_true rfl) dX6_length_14 ⟨Nat.le_of_ble_eq_true rfl, Nat.le_of_ble_eq_true rfl⟩ (fun r5 er5 => ?_)
      rw [if_pos (by omega)] at er5
      subst er5
      refine lv_if_eq (tgt := 25) hx hb dX6_length_17 (by decide) (fun c_17 => absurd c_17 (by decide)) (fun c_17 => ?_)
      refine lv_bipush (v := (-2)) hx hb dX6_length_20 (by decide) ?_
      refine lv_goto (tgt := 30) hx hb dX6_length_22 (by decide) ?_
      exact e_i S9 hr hlk (by simp [sp_length, obj_some i_2 ho, hk]) dX6_length_30

set_option maxHeartbeats 4000000 in
set_option maxRecDepth 100000 in
theorem c_msame (l : Launch) {G : Gt} {ws : va_W} (sz : Nat) {x ha at_ li : Nat} {S : St} (hR : RpM G x ha at_ li S ws) (hI : Inv S) (a b : Int32) : Met l yX6_same wsX6_same ({ frames := 2, cells := 0, slots := 0, locals := 41 } : Room) (Pw G [.ref x, .int a, .int b] ws sz) (vp_Si (fun r : Int32 => r = sp_same S a b)) 0 0 (fun _ => False) := by
  refine Met_pw (cc := cX6_same) (maxL := 3) (ret := (some .int)) (by decide) rfl (Nat.le_of_ble_eq_true rfl) ?_
  intro p e s m below meth c ls hsz S9 hr hlk hnm w hl
  subst hsz
  replace S9 : CallFix p m c cX6_same 3 s _ wsX6_same RX6 := S9
  have hx := S9.1
  have hb := S9.2.1
  have hown := S9.2.2.2.1
  have hts := S9.2.2.2.2
  replace hl : lv_has ls 3 [(0, .ref x), (1, .int a), (2, .int b)] := hl
  obtain ⟨hf, af, hR1, -⟩ := id hR
  refine lv_aload_n hx hb dX6_same_0 rfl (lv_at hl 0 rfl) ?_
  refine lv_iload_n hx hb dX6_same_1 rfl (lv_at hl 1 rfl) ?_
  refine kx_in S9 w hR hI gX6_same_X6_in hl.1 (Nat.le_of_ble_eq_true rfl) dX6_same_2 ⟨Nat.le_of_ble_eq_true rfl, Nat.le_of_ble_eq_true rfl⟩ ⟨Nat.le_of_ble_eq_true rfl, Nat.le_of_ble_eq_true rfl⟩ (fun i_2 => ?_) (fun h o i_2 ho => ?_)
  · refine lv_if_lt (tgt := 16) hx hb dX6_same_5 (by decide) (fun c_5 => ?_) (fun c_5 => absurd c_5 (by decide))
    refine lv_iconst (v := (-1)) hx hb dX6_same_16 (by decide) ?_
    exact e_i S9 hr hlk (by simp [sp_same, i_2]) dX6_same_17
  · refine lv_if_lt (tgt := 16) hx hb dX6_same_5 (by decide) (fun c_5 => absurd c_5 (nI_pos (by have := hI.hd ho; omega))) (fun c_5 => ?_)
    refine lv_aload_n hx hb dX6_same_8 rfl (lv_at hl 0 rfl) ?_
    refine lv_iload_n hx hb dX6_same_9 rfl (lv_at hl 2 rfl) ?_
    refine kx_in S9 w hR hI gX6_same_X6_in hl.1 (Nat.le_of_ble_eq_true rfl) dX6_same_10 ⟨Nat.le_of_ble_eq_true rfl, Nat.le_of_ble_eq_true rfl⟩ ⟨Nat.le_of_ble_eq_true rfl, Nat.le_of_ble_eq_true rfl⟩ (fun i_10 => ?_) (fun h9 o9 i_10 ho9 => ?_)
    · refine lv_if_ge (tgt := 18) hx hb dX6_same_13 (by decide) (fun c_13 => absurd c_13 (by decide)) (fun c_13 => ?_)
      refine lv_iconst (v := (-1)) hx hb dX6_same_16 (by decide) ?_
      exact e_i S9 hr hlk (by simp [sp_same, i_2, i_10]) dX6_same_17
    · refine lv_if_ge (tgt := 18) hx hb dX6_same_13 (by decide) (fun c_13 => ?_) (fun c_13 => absurd (nI_pos' (by have := hI.hd ho9; omega)) c_13)
      refine lv_aload_n hx hb dX6_same_18 rfl (lv_at hl 0 rfl) ?_
      refine lv_iload_n hx hb dX6_same_19 rfl (lv_at hl 1 rfl) ?_
      refine k_vi S9 w (c_min l _ hR a) hR1 rfl (cwV 1 hts gX6_same_X6_in rfl rfl rfl (by decide +kernel) ⟨Nat.le_of_ble_eq_true rfl, Nat.le_of_ble_eq_true rfl⟩) rfl hl.1 rfl (Nat.le_of_ble_eq_true rfl) dX6_same_20 ⟨Nat.le_of_ble_eq_true rfl, Nat.le_of_ble_eq_true rfl⟩ (fun r1 er1 => ?_)
      rw [i_2] at er1
      replace er1 : r1 = nI h := er1
      subst er1
      refine lv_aload_n hx hb dX6_same_23 rfl (lv_at hl 0 rfl) ?_
      refine lv_iload_n hx hb dX6_same_24 rfl (lv_at hl 2 rfl) ?_
      refine k_vi S9 w (c_min l _ hR b) hR1 rfl (cwV 1 hts gX6_same_X6_in rfl rfl rfl (by decide +kernel) ⟨Nat.le_of_ble_eq_true rfl, Nat.le_of_ble_eq_true rfl⟩) rfl hl.1 rfl (Nat.le_of_ble_eq_true rfl) dX6_same_25 ⟨Nat.le_of_ble_eq_true rfl, Nat.le_of_ble_eq_true rfl⟩ (fun r2 er2 => ?_)
      rw [i_10] at er2
      replace er2 : r2 = nI h9 := er2
      subst er2
      refine lv_icmp_ne (tgt := 35) hx hb dX6_same_28 (by decide) (fun c_28 => ?_) (fun c_28 => ?_)
      · refine lv_iconst (v := 0) hx hb dX6_same_35 (by decide) ?_
        exact e_i S9 hr hlk (by have q : ¬ h = h9 := (fun q => c_28 (by rw [q])); simp [sp_same, i_2, i_10, q]) dX6_same_36
      · refine lv_iconst (v := 1) hx hb dX6_same_31 (by decide) ?_
        refine lv_goto (tgt := 36) hx hb dX6_same_32 (by decide) ?_
        exact e_i S9 hr hlk (by have q := (nI_eq (by have := hI.hd ho; omega) (by have := hI.hd ho9; omega)).mp c_28; simp [sp_same, i_2, i_10, q]) dX6_same_36

set_option maxHeartbeats 4000000 in
set_option maxRecDepth 100000 in
theorem c_mwhy (l : Launch) {G : Gt} {ws : va_W} (sz : Nat) {x ha at_ li : Nat} {S : St} (hR : RpM G x ha at_ li S ws) : Met l yX6_why wsX6_why ({ frames := 0, cells := 0, slots := 0, locals := 0 } : Room) (Pw G [.ref x] ws sz) (vp_Si (fun r : Int32 => r = s_c S 2)) 0 0 (fun _ => False) := by
  refine Met_pw (cc := cX6_why) (maxL := 1) (ret := (some .int)) (by decide) rfl (Nat.le_of_ble_eq_true rfl) ?_
  intro p e s m below meth c ls hsz S9 hr hlk hnm w hl
  subst hsz
  replace S9 : CallFix p m c cX6_why 1 s _ wsX6_why RX6 := S9
  have hx := S9.1
  have hb := S9.2.1
  have hown := S9.2.2.2.1
  have hts := S9.2.2.2.2
  replace hl : lv_has ls 1 [(0, .ref x)] := hl
  obtain ⟨hf, af, m1, m2, m3, m4, m5, m6⟩ := hR
  refine lv_aload_n hx hb dX6_why_0 rfl (lv_at hl 0 rfl) ?_
  refine r_get (ref := "SpanMoverModel") S9 w m1 rfl (by decide +kernel) 5 (by decide) (by decide +kernel) (Or.inl rfl) rfl dX6_why_1 ?_
  exact e_i S9 hr hlk (rfl) dX6_why_4

set_option maxHeartbeats 4000000 in
set_option maxRecDepth 100000 in
theorem c_mmoved (l : Launch) {G : Gt} {ws : va_W} (sz : Nat) {x ha at_ li : Nat} {S : St} (hR : RpM G x ha at_ li S ws) : Met l yX6_moved wsX6_moved ({ frames := 0, cells := 0, slots := 0, locals := 0 } : Room) (Pw G [.ref x] ws sz) (vp_Si (fun r : Int32 => r = s_c S 3)) 0 0 (fun _ => False) := by
  refine Met_pw (cc := cX6_moved) (maxL := 1) (ret := (some .int)) (by decide) rfl (Nat.le_of_ble_eq_true rfl) ?_
  intro p e s m below meth c ls hsz S9 hr hlk hnm w hl
  subst hsz
  replace S9 : CallFix p m c cX6_moved 1 s _ wsX6_moved RX6 := S9
  have hx := S9.1
  have hb := S9.2.1
  have hown := S9.2.2.2.1
  have hts := S9.2.2.2.2
  replace hl : lv_has ls 1 [(0, .ref x)] := hl
  obtain ⟨hf, af, m1, m2, m3, m4, m5, m6⟩ := hR
  refine lv_aload_n hx hb dX6_moved_0 rfl (lv_at hl 0 rfl) ?_
  refine r_get (ref := "SpanMoverModel") S9 w m1 rfl (by decide +kernel) 7 (by decide) (by decide +kernel) (Or.inl rfl) rfl dX6_moved_1 ?_
  exact e_i S9 hr hlk (rfl) dX6_moved_4

set_option maxHeartbeats 4000000 in
set_option maxRecDepth 100000 in
theorem c_mended (l : Launch) {G : Gt} {ws : va_W} (sz : Nat) {x ha at_ li : Nat} {S : St} (hR : RpM G x ha at_ li S ws) : Met l yX6_ended wsX6_ended ({ frames := 0, cells := 0, slots := 0, locals := 0 } : Room) (Pw G [.ref x] ws sz) (vp_Si (fun r : Int32 => r = s_c S 4)) 0 0 (fun _ => False) := by
  refine Met_pw (cc := cX6_ended) (maxL := 1) (ret := (some .int)) (by decide) rfl (Nat.le_of_ble_eq_true rfl) ?_
  intro p e s m below meth c ls hsz S9 hr hlk hnm w hl
  subst hsz
  replace S9 : CallFix p m c cX6_ended 1 s _ wsX6_ended RX6 := S9
  have hx := S9.1
  have hb := S9.2.1
  have hown := S9.2.2.2.1
  have hts := S9.2.2.2.2
  replace hl : lv_has ls 1 [(0, .ref x)] := hl
  obtain ⟨hf, af, m1, m2, m3, m4, m5, m6⟩ := hR
  refine lv_aload_n hx hb dX6_ended_0 rfl (lv_at hl 0 rfl) ?_
  refine r_get (ref := "SpanMoverModel") S9 w m1 rfl (by decide +kernel) 6 (by decide) (by decide +kernel) (Or.inl rfl) rfl dX6_ended_1 ?_
  exact e_i S9 hr hlk (rfl) dX6_ended_4

set_option maxHeartbeats 4000000 in
set_option maxRecDepth 100000 in
theorem c_mcount (l : Launch) {G : Gt} {ws : va_W} (sz : Nat) {x ha at_ li : Nat} {S : St} (hR : RpM G x ha at_ li S ws) (hI : Inv S) (i : Int32) : Met l yX6_count wsX6_count ({ frames := 0, cells := 0, slots := 0, locals := 0 } : Room) (Pw G [.ref x, .int i] ws sz) (vp_Si (fun r : Int32 => r = sp_count S i)) 0 0 (fun _ => False) := by
  refine Met_pw (cc := cX6_count) (maxL := 4) (ret := (some .int)) (by decide) rfl (Nat.le_of_ble_eq_true rfl) ?_
  intro p e s m below meth c ls hsz S9 hr hlk hnm w hl
  subst hsz
  replace S9 : CallFix p m c cX6_count 4 s _ wsX6_count RX6 := S9
  have hx := S9.1
  have hb := S9.2.1
  have hown := S9.2.2.2.1
  have hts := S9.2.2.2.2
  replace hl : lv_has ls 4 [(0, .ref x), (1, .int i)] := hl
  obtain ⟨hf, af, m1, m2, m3, m4, m5, m6⟩ := hR
  refine lv_iconst (v := 0) hx hb dX6_count_0 (by decide) ?_
  refine lv_istore_n (lv' := [(2, .int 0), (0, .ref x), (1, .int i)]) hx hb dX6_count_1 rfl hl (by decide) rfl (fun ls hl => ?_)
  refine lv_iconst (v := 0) hx hb dX6_count_2 (by decide) ?_
  refine lv_istore_n (lv' := [(3, .int 0), (2, .int 0), (0, .ref x), (1, .int i)]) hx hb dX6_count_3 rfl hl (by decide) rfl (fun ls hl => ?_)
  obtain ⟨k, hk, hv, ht⟩ : ∃ k : Nat, k ≤ 400 ∧ (0 : Int32) = nI k ∧ (0 : Int32) = nI (tkn (s_s S) k) := ⟨0, by omega, rfl, rfl⟩
  obtain ⟨v, hv0⟩ : ∃ v : Int32, v = 0 := ⟨_, rfl⟩
  obtain ⟨t, ht0⟩ : ∃ t : Int32, t = 0 := ⟨_, rfl⟩
  replace hl : lv_has ls 4 [(3, .int v), (2, .int t), (0, .ref x), (1, .int i)] := by rw [hv0, ht0]; exact hl
  rw [← hv0] at hv
  rw [← ht0] at ht
  clear hv0 ht0
  obtain ⟨n, hn⟩ : ∃ n, 400 - k < n := ⟨_, Nat.lt_succ_self _⟩
  induction n generalizing k v t ls with
  | zero => exact absurd hn (Nat.not_lt_zero _)
  | succ n ih =>
    refine lv_iload_n hx hb dX6_count_4 rfl (lv_at hl 0 rfl) ?_
    refine lv_sipush (v := 400) hx hb dX6_count_5 (by decide) ?_
    refine lv_icmp_ge (tgt := 34) hx hb dX6_count_8 (by decide) (fun c_8 => ?_) (fun c_8 => ?_)
    · refine lv_iload_n hx hb dX6_count_34 rfl (lv_at hl 3 rfl) ?_
      have h4 := ge_nI (n := 400) hv hk (by decide) c_8
      subst h4
      rcases sw5 i with rfl | rfl | rfl | rfl | rfl | hi
      · refine lv_tableIn (off := 33) (tgt := 68) hx hb dX6_count_35 (by decide) (by decide) (by decide) (by decide) ?_
        refine lv_iload_n hx hb dX6_count_68 rfl (lv_at hl 1 rfl) ?_
        exact e_i S9 hr hlk (ht) dX6_count_69
      · refine lv_tableIn (off := 35) (tgt := 70) hx hb dX6_count_35 (by decide) (by decide) (by decide) (by decide) ?_
        refine lv_ldc (v := 60000) hx hb hown (hts (.constant RX6 7 (60000)) (by decide +kernel)) dX6_count_70 ?_
        refine lv_aload_n hx hb dX6_count_72 rfl (lv_at hl 2 rfl) ?_
        refine r_get (ref := "SpanMoverModel") S9 w m1 rfl (by decide +kernel) 1 (by decide) (by decide +kernel) (Or.inl rfl) rfl dX6_count_73 ?_
        refine lv_isub hx hb dX6_count_76 ?_
        refine lv_topi (fun v1 ev1 => ?_)
        exact e_i S9 hr hlk (by rw [ev1]; show _ = s_c S 1; rw [hI.2.1]; exact pk_sub (a := 60000) hI.1) dX6_count_77
      · refine lv_tableIn (off := 43) (tgt := 78) hx hb dX6_count_35 (by decide) (by decide) (by decide) (by decide) ?_
        refine lv_aload_n hx hb dX6_count_78 rfl (lv_at hl 2 rfl) ?_
        refine r_get (ref := "SpanMoverModel") S9 w m1 rfl (by decide +kernel) 4 (by decide) (by decide +kernel) (Or.inl rfl) rfl dX6_count_79 ?_
        exact e_i S9 hr hlk (rfl) dX6_count_82
      · refine lv_tableIn (off := 48) (tgt := 83) hx hb dX6_count_35 (by decide) (by decide) (by decide) (by decide) ?_
        refine lv_aload_n hx hb dX6_count_83 rfl (lv_at hl 2 rfl) ?_
        refine r_get (ref := "SpanMoverModel") S9 w m1 rfl (by decide +kernel) 8 (by decide) (by decide +kernel) (Or.inl rfl) rfl dX6_count_84 ?_
        exact e_i S9 hr hlk (rfl) dX6_count_87
      · refine lv_tableIn (off := 53) (tgt := 88) hx hb dX6_count_35 (by decide) (by decide) (by decide) (by decide) ?_
        refine lv_aload_n hx hb dX6_count_88 rfl (lv_at hl 2 rfl) ?_
        refine r_get (ref := "SpanMoverModel") S9 w m1 rfl (by decide +kernel) 9 (by decide) (by decide +kernel) (Or.inl rfl) rfl dX6_count_89 ?_
        exact e_i S9 hr hlk (rfl) dX6_count_92
      · refine lv_tableOut (tgt := 93) hx hb dX6_count_35 hi (by decide) ?_
        refine lv_iconst (v := (-1)) hx hb dX6_count_93 (by decide) ?_
        exact e_i S9 hr hlk (by have h0 : ¬ i = 0 := (fun q => by subst q; revert hi; decide); have h1 : ¬ i = 1 := (fun q => by subst q; revert hi; decide); have h2 : ¬ i = 2 := (fun q => by subst q; revert hi; decide); have h3 : ¬ i = 3 := (fun q => by subst q; revert hi; decide); have h4 : ¬ i = 4 := (fun q => by subst q; revert hi; decide); simp [sp_count, h0, h1, h2, h3, h4]) dX6_count_94
    · refine lv_aload_n hx hb dX6_count_11 rfl (lv_at hl 2 rfl) ?_
      refine r_get (ref := "SpanMoverModel") S9 w m1 rfl (by decide +kernel) 2 (by decide) (by decide +kernel) (Or.inl rfl) rfl dX6_count_12 ?_
      refine lv_iload_n hx hb dX6_count_15 rfl (lv_at hl 0 rfl) ?_
      refine r_iald S9 w m3 (in_nI (n := 400) hv hk (by decide) c_8) dX6_count_16 ?_
      refine lv_topi (fun v2 ev2 => ?_)
      refine lv_if_le (tgt := 26) hx hb dX6_count_17 (by decide) (fun c_17 => ?_) (fun c_17 => ?_)
      · refine lv_iload_n hx hb dX6_count_26 rfl (lv_at hl 1 rfl) ?_
        refine lv_istore_n (lv' := [(2, .int t), (3, .int v), (0, .ref x), (1, .int i)]) hx hb dX6_count_27 rfl hl (by decide) rfl (fun ls hl => ?_)
        obtain ⟨v3, ev3⟩ : ∃ z : Int32, z = v + 1 := ⟨_, rfl⟩
        refine lv_iinc (v := v3) (lv' := [(3, .int v3), (2, .int t), (0, .ref x), (1, .int i)]) hx hb dX6_count_28 hl (k := 1) rfl (by rw [ev3]; rfl) (by decide) rfl (fun ls hl => ?_)
        refine lv_goto (tgt := 4) hx hb dX6_count_31 (by decide) ?_
        have hk4 := nge_nI (n := 400) hv hk (by decide) c_8
        rw [ev2, cl_nI hv (by omega), m5 k hk4, sh_le0 hI] at c_17
        exact ih (ls := ls) (k := k + 1) (v := v3) (t := t) (hk := by omega) (hv := by rw [ev3, hv]; exact nI_1 k) (ht := by
            cases hs : s_s S k with
            | none => simp [tkn, hs, ht]
            | some y => rw [hs] at c_17; cases c_17) (hl := lv_sub hl [0, 1, 2, 3] rfl) (hn := by omega)
      · refine lv_iload_n hx hb dX6_count_20 rfl (lv_at hl 1 rfl) ?_
        refine lv_iconst (v := 1) hx hb dX6_count_21 (by decide) ?_
        refine lv_iadd hx hb dX6_count_22 ?_
        refine lv_topi (fun v4 ev4 => ?_)
        refine lv_goto (tgt := 27) hx hb dX6_count_23 (by decide) ?_
        refine lv_istore_n (lv' := [(2, .int v4), (3, .int v), (0, .ref x), (1, .int i)]) hx hb dX6_count_27 rfl hl (by decide) rfl (fun ls hl => ?_)
        obtain ⟨v5, ev5⟩ : ∃ z : Int32, z = v + 1 := ⟨_, rfl⟩
        refine lv_iinc (v := v5) (lv' := [(3, .int v5), (2, .int v4), (0, .ref x), (1, .int i)]) hx hb dX6_count_28 hl (k := 1) rfl (by rw [ev5]; rfl) (by decide) rfl (fun ls hl => ?_)
        refine lv_goto (tgt := 4) hx hb dX6_count_31 (by decide) ?_
        have hk4 := nge_nI (n := 400) hv hk (by decide) c_8
        rw [ev2, cl_nI hv (by omega), m5 k hk4, sh_le0 hI] at c_17
        exact ih (ls := ls) (k := k + 1) (v := v5) (t := v4) (hk := by omega) (hv := by rw [ev5, hv]; exact nI_1 k) (ht := by
            cases hs : s_s S k with
            | none => exact absurd hs c_17
            | some y => simp [tkn, hs, ev4, ht, nI_succ]) (hl := lv_sub hl [0, 1, 2, 3] rfl) (hn := by omega)
