set_option maxHeartbeats 4000000 in
set_option maxRecDepth 100000 in
theorem c_mrun (l : Launch) {G : Gt} {ws : va_W} (sz : Nat) {x ha at_ li : Nat} {S : St} (hR : RpM G x ha at_ li S ws) (hI : Inv S) : Met l yX6_run wsX6_run ({ frames := 4, cells := 0, slots := 0, locals := 99 } : Room) (Pw G [.ref x] ws sz) (va_Qi (fun (r : Int32) (u : va_W) => r = (sp_run S).1 ∧ RpM G x ha at_ li (sp_run S).2 u) (Bw G ws sz) (va_A ws sz)) 0 0 (va_A ws sz) := by
  refine Met_pw (cc := cX6_run) (maxL := 5) (ret := (some .int)) (by decide) rfl (Nat.le_of_ble_eq_true rfl) ?_
  intro p e s m below meth c ls hsz S9 hr hlk hnm w hl
  subst hsz
  replace S9 : CallFix p m c cX6_run 5 s _ wsX6_run RX6 := S9
  have hx := S9.1
  have hb := S9.2.1
  have hown := S9.2.2.2.1
  have hts := S9.2.2.2.2
  replace hl : lv_has ls 5 [(0, .ref x)] := hl
  refine lv_iconst (v := 0) hx hb dX6_run_0 (by decide) ?_
  refine lv_istore_n (lv' := [(1, .int 0), (0, .ref x)]) hx hb dX6_run_1 rfl hl (by decide) rfl (fun ls hl => ?_)
  refine lv_iconst (v := 1) hx hb dX6_run_2 (by decide) ?_
  refine lv_istore_n (lv' := [(2, .int 1), (1, .int 0), (0, .ref x)]) hx hb dX6_run_3 rfl hl (by decide) rfl (fun ls hl => ?_)
  refine lv_iconst (v := 0) hx hb dX6_run_4 (by decide) ?_
  refine lv_istore_n (lv' := [(3, .int 0), (2, .int 1), (1, .int 0), (0, .ref x)]) hx hb dX6_run_5 rfl hl (by decide) rfl (fun ls hl => ?_)
  obtain ⟨P, hP, hP0⟩ := hI.2.2.1
  obtain ⟨k, S7, ws7, H7, lc7, hk, hv, hy, hI7, hc7, hr7, hR7, w7, eH, eL⟩ : ∃ (k : Nat) (S7 : St) (ws7 : va_W) (H7 : Heap) (lc7 : List Loc), k ≤ P ∧ (0 : Int32) = nI k ∧ (0 : Int32) = nI k ∧ Inv S7 ∧ s_c S7 0 = nI P ∧ runF P 0 S = runF (P - k) k S7 ∧ RpM G x ha at_ li S7 ws7 ∧ Wd G (va_A ws s.heap.size) s ws7 H7 lc7 ∧ s.heap = H7 ∧ [] = lc7 := ⟨0, S, ws, _, _, by omega, rfl, rfl, hI, hP0, rfl, hR, w, rfl, rfl⟩
  refine W_at eH eL ?_
  clear eH eL
  obtain ⟨v, hv0⟩ : ∃ v : Int32, v = 0 := ⟨_, rfl⟩
  obtain ⟨y, hy0⟩ : ∃ y : Int32, y = 0 := ⟨_, rfl⟩
  replace hl : lv_has ls 5 [(3, .int y), (2, .int 1), (1, .int v), (0, .ref x)] := by rw [hv0, hy0]; exact hl
  rw [← hv0] at hv
  rw [← hy0] at hy
  clear hv0 hy0
  obtain ⟨t, ht⟩ : ∃ t, P - k < t := ⟨_, Nat.lt_succ_self _⟩
  induction t generalizing k v y ls S7 ws7 H7 lc7 with
  | zero => exact absurd ht (Nat.not_lt_zero _)
  | succ t ih =>
    obtain ⟨hf7, af7, q1, q2, q3, q4, q5, q6⟩ := id hR7
    refine lv_iload_n hx hb dX6_run_6 rfl (lv_at hl 0 rfl) ?_
    refine lv_aload_n hx hb dX6_run_7 rfl (lv_at hl 3 rfl) ?_
    refine r_get (ref := "SpanMoverModel") S9 w7 q1 rfl (by decide +kernel) 4 (by decide) (by decide +kernel) (Or.inl rfl) rfl dX6_run_8 ?_
    refine lv_icmp_ge (tgt := 92) hx hb dX6_run_11 (by decide) (fun c_11 => ?_) (fun c_11 => ?_)
    · refine lv_aload_n hx hb dX6_run_92 rfl (lv_at hl 3 rfl) ?_
      refine lv_iconst (v := 0) hx hb dX6_run_93 (by decide) ?_
      have hend : runF P 0 S = (k, S7) := by
        rw [hc7] at c_11
        have h4 := ge_nI hy hk (by omega) c_11
        subst h4
        rw [hr7, Nat.sub_self]
        rfl
      refine r_put (ref := "SpanMoverModel") S9 w7 q1 rfl (by decide +kernel) tyX6_ok nmX6 4 (by decide) (by decide +kernel) (Or.inl rfl) rfl rfl rfl (Nat.le_of_ble_eq_true rfl) dX6_run_94 (fun ws9 H9 lc9 u9 w9 => ?_)
      have hR9 := RpM.sc (f := upd (s_c S7) 0 0) w7.2.1 hR7 q1 u9 rfl
      refine lv_iload_n hx hb dX6_run_97 rfl (lv_at hl 2 rfl) ?_
      exact ew_i S9 hr hlk w9 (by unfold sp_run; rw [cl_nI hP0 (by omega), hend]; exact ⟨hv, hR9⟩) dX6_run_98 (by decide) (by decide)
    · refine lv_iload_n hx hb dX6_run_14 rfl (lv_at hl 1 rfl) ?_
      refine lv_if_eq (tgt := 92) hx hb dX6_run_15 (by decide) (fun c_15 => absurd c_15 (by decide)) (fun c_15 => ?_)
      have hk4 : k < P := by rw [hc7] at c_11; exact nge_nI hy hk (by omega) c_11
      refine lv_iconst (v := 5) hx hb dX6_run_18 (by decide) ?_
      refine lv_iload_n hx hb dX6_run_19 rfl (lv_at hl 0 rfl) ?_
      refine lv_imul hx hb dX6_run_20 ?_
      refine lv_topi (fun v1 ev1 => ?_)
      refine lv_istore (lv' := [(4, .int v1), (3, .int y), (2, .int 1), (1, .int v), (0, .ref x)]) hx hb dX6_run_21 hl (by decide) rfl (fun ls hl => ?_)
      refine lv_aload_n hx hb dX6_run_23 rfl (lv_at hl 4 rfl) ?_
      refine lv_aload_n hx hb dX6_run_24 rfl (lv_at hl 4 rfl) ?_
      refine r_get (ref := "SpanMoverModel") S9 w7 q1 rfl (by decide +kernel) 3 (by decide) (by decide +kernel) (Or.inl rfl) rfl dX6_run_25 ?_
      refine lv_iload hx hb dX6_run_28 (lv_at hl 0 rfl) ?_
      refine r_iald S9 w7 q4 (by rw [show v1 = nI (5 * k) from by rw [ev1, hy]; exact pk_mul 5 k]; exact vp_in_nI (by omega) (by decide)) dX6_run_30 ?_
      refine lv_topi (fun v2 ev2 => ?_)
      refine lv_aload_n hx hb dX6_run_31 rfl (lv_at hl 4 rfl) ?_
      refine r_get (ref := "SpanMoverModel") S9 w7 q1 rfl (by decide +kernel) 3 (by decide) (by decide +kernel) (Or.inl rfl) rfl dX6_run_32 ?_
      refine lv_iload hx hb dX6_run_35 (lv_at hl 0 rfl) ?_
      refine lv_iconst (v := 1) hx hb dX6_run_37 (by decide) ?_
      refine lv_iadd hx hb dX6_run_38 ?_
      refine lv_topi (fun v3 ev3 => ?_)
      refine r_iald S9 w7 q4 (by rw [show v3 = nI (5 * k + 1) from by rw [ev3, ev1, hy]; exact (congrArg (· + 1) (pk_mul 5 k)).trans (nI_add (5 * k) 1)]; exact vp_in_nI (by omega) (by decide)) dX6_run_39 ?_
      refine lv_topi (fun v4 ev4 => ?_)
      refine lv_aload_n hx hb dX6_run_40 rfl (lv_at hl 4 rfl) ?_
      refine r_get (ref := "SpanMoverModel") S9 w7 q1 rfl (by decide +kernel) 3 (by decide) (by decide +kernel) (Or.inl rfl) rfl dX6_run_41 ?_
      refine lv_iload hx hb dX6_run_44 (lv_at hl 0 rfl) ?_
      refine lv_iconst (v := 2) hx hb dX6_run_46 (by decide) ?_
      refine lv_iadd hx hb dX6_run_47 ?_
      refine lv_topi (fun v5 ev5 => ?_)
      refine r_iald S9 w7 q4 (by rw [show v5 = nI (5 * k + 2) from by rw [ev5, ev1, hy]; exact (congrArg (· + 2) (pk_mul 5 k)).trans (nI_add (5 * k) 2)]; exact vp_in_nI (by omega) (by decide)) dX6_run_48 ?_
      refine lv_topi (fun v6 ev6 => ?_)
      refine lv_aload_n hx hb dX6_run_49 rfl (lv_at hl 4 rfl) ?_
      refine r_get (ref := "SpanMoverModel") S9 w7 q1 rfl (by decide +kernel) 3 (by decide) (by decide +kernel) (Or.inl rfl) rfl dX6_run_50 ?_
      refine lv_iload hx hb dX6_run_53 (lv_at hl 0 rfl) ?_
      refine lv_iconst (v := 3) hx hb dX6_run_55 (by decide) ?_
      refine lv_iadd hx hb dX6_run_56 ?_
      refine lv_topi (fun v7 ev7 => ?_)
      refine r_iald S9 w7 q4 (by rw [show v7 = nI (5 * k + 3) from by rw [ev7, ev1, hy]; exact (congrArg (· + 3) (pk_mul 5 k)).trans (nI_add (5 * k) 3)]; exact vp_in_nI (by omega) (by decide)) dX6_run_57 ?_
      refine lv_topi (fun v8 ev8 => ?_)
      refine lv_aload_n hx hb dX6_run_58 rfl (lv_at hl 4 rfl) ?_
      refine r_get (ref := "SpanMoverModel") S9 w7 q1 rfl (by decide +kernel) 3 (by decide) (by decide +kernel) (Or.inl rfl) rfl dX6_run_59 ?_
      refine lv_iload hx hb dX6_run_62 (lv_at hl 0 rfl) ?_
      refine lv_iconst (v := 4) hx hb dX6_run_64 (by decide) ?_
      refine lv_iadd hx hb dX6_run_65 ?_
      refine lv_topi (fun v9 ev9 => ?_)
      refine r_iald S9 w7 q4 (by rw [show v9 = nI (5 * k + 4) from by rw [ev9, ev1, hy]; exact (congrArg (· + 4) (pk_mul 5 k)).trans (nI_add (5 * k) 4)]; exact vp_in_nI (by omega) (by decide)) dX6_run_66 ?_
      refine lv_topi (fun v10 ev10 => ?_)
      refine kw_vi S9 w7 (c_mmove l _ hR7 hI7 v2 v4 v6 v8 v10) q1 rfl (cwV 5 hts gX6_run_X6_move rfl rfl rfl (by decide +kernel) ⟨Nat.le_of_ble_eq_true rfl, Nat.le_of_ble_eq_true rfl⟩) rfl hl.1 rfl (Nat.le_of_ble_eq_true rfl) dX6_run_67 ⟨Nat.le_of_ble_eq_true rfl, Nat.le_of_ble_eq_true rfl⟩ (fun v12 u12 H12 lc12 p12 w12 => ?_)
      rw [ev2, cl_nI (show v1 = nI (5 * k) from by rw [ev1, hy]; exact pk_mul 5 k) (by omega), show 5 * k = k * 5 by omega] at p12
      rw [ev4, cl_nI (show v3 = nI (5 * k + 1) from by rw [ev3, ev1, hy]; exact (congrArg (· + 1) (pk_mul 5 k)).trans (nI_add (5 * k) 1)) (by omega), show 5 * k + 1 = k * 5 + 1 by omega] at p12
      rw [ev6, cl_nI (show v5 = nI (5 * k + 2) from by rw [ev5, ev1, hy]; exact (congrArg (· + 2) (pk_mul 5 k)).trans (nI_add (5 * k) 2)) (by omega), show 5 * k + 2 = k * 5 + 2 by omega] at p12
      rw [ev8, cl_nI (show v7 = nI (5 * k + 3) from by rw [ev7, ev1, hy]; exact (congrArg (· + 3) (pk_mul 5 k)).trans (nI_add (5 * k) 3)) (by omega), show 5 * k + 3 = k * 5 + 3 by omega] at p12
      rw [ev10, cl_nI (show v9 = nI (5 * k + 4) from by rw [ev9, ev1, hy]; exact (congrArg (· + 4) (pk_mul 5 k)).trans (nI_add (5 * k) 4)) (by omega), show 5 * k + 4 = k * 5 + 4 by omega] at p12
      obtain ⟨hf8, af8, r1, r2, r3, r4, r5, r6⟩ := id p12.2
      refine lv_if_ne (tgt := 77) hx hb dX6_run_70 (by decide) (fun c_70 => ?_) (fun c_70 => ?_)
      · refine lv_iconst (v := 0) hx hb dX6_run_77 (by decide) ?_
        refine lv_istore_n (lv' := [(2, .int 0), (4, .int v1), (3, .int y), (1, .int v), (0, .ref x)]) hx hb dX6_run_78 rfl hl (by decide) rfl (fun ls hl => ?_)
        refine lv_iload_n hx hb dX6_run_79 rfl (lv_at hl 0 rfl) ?_
        refine lv_if_eq (tgt := 86) hx hb dX6_run_80 (by decide) (fun c_80 => ?_) (fun c_80 => absurd c_80 (by decide))
        obtain ⟨v11, ev11⟩ : ∃ z : Int32, z = y + 1 := ⟨_, rfl⟩
        refine lv_iinc (v := v11) (lv' := [(3, .int v11), (2, .int 0), (4, .int v1), (1, .int v), (0, .ref x)]) hx hb dX6_run_86 hl (k := 2) rfl (by rw [ev11]; rfl) (by decide) rfl (fun ls hl => ?_)
        refine lv_goto (tgt := 6) hx hb dX6_run_89 (by decide) ?_
        refine lv_iload_n hx hb dX6_run_6 rfl (lv_at hl 0 rfl) ?_
        refine lv_aload_n hx hb dX6_run_7 rfl (lv_at hl 4 rfl) ?_
        refine r_get (ref := "SpanMoverModel") S9 w12 r1 rfl (by decide +kernel) 4 (by decide) (by decide +kernel) (Or.inl rfl) rfl dX6_run_8 ?_
        refine lv_icmp_ge (tgt := 92) hx hb dX6_run_11 (by decide) (fun c_11 => ?_) (fun c_11 => ?_)
        · refine lv_aload_n hx hb dX6_run_92 rfl (lv_at hl 4 rfl) ?_
          refine lv_iconst (v := 0) hx hb dX6_run_93 (by decide) ?_
          have hend : runF P 0 S = (k, (sp_move S7 (s_l S7 (k * 5)) (s_l S7 (k * 5 + 1)) (s_l S7 (k * 5 + 2)) (s_l S7 (k * 5 + 3)) (s_l S7 (k * 5 + 4))).2) := by rw [hr7, runF_stop hk4 (fun q => c_70 (p12.1.trans q))]
          refine r_put (ref := "SpanMoverModel") S9 w12 r1 rfl (by decide +kernel) tyX6_ok nmX6 4 (by decide) (by decide +kernel) (Or.inl rfl) rfl rfl rfl (Nat.le_of_ble_eq_true rfl) dX6_run_94 (fun ws9 H9 lc9 u9 w9 => ?_)
          have hR9 := RpM.sc (f := upd (s_c ((sp_move S7 (s_l S7 (k * 5)) (s_l S7 (k * 5 + 1)) (s_l S7 (k * 5 + 2)) (s_l S7 (k * 5 + 3)) (s_l S7 (k * 5 + 4))).2)) 0 0) w12.2.1 p12.2 r1 u9 rfl
          refine lv_iload_n hx hb dX6_run_97 rfl (lv_at hl 3 rfl) ?_
          exact ew_i S9 hr hlk w9 (by unfold sp_run; rw [cl_nI hP0 (by omega), hend]; exact ⟨hv, hR9⟩) dX6_run_98 (by decide) (by decide)
        · refine lv_iload_n hx hb dX6_run_14 rfl (lv_at hl 1 rfl) ?_
          refine lv_if_eq (tgt := 92) hx hb dX6_run_15 (by decide) (fun c_15 => ?_) (fun c_15 => absurd c_15 (by decide))
          refine lv_aload_n hx hb dX6_run_92 rfl (lv_at hl 4 rfl) ?_
          refine lv_iconst (v := 0) hx hb dX6_run_93 (by decide) ?_
          have hend : runF P 0 S = (k, (sp_move S7 (s_l S7 (k * 5)) (s_l S7 (k * 5 + 1)) (s_l S7 (k * 5 + 2)) (s_l S7 (k * 5 + 3)) (s_l S7 (k * 5 + 4))).2) := by rw [hr7, runF_stop hk4 (fun q => c_70 (p12.1.trans q))]
          refine r_put (ref := "SpanMoverModel") S9 w12 r1 rfl (by decide +kernel) tyX6_ok nmX6 4 (by decide) (by decide +kernel) (Or.inl rfl) rfl rfl rfl (Nat.le_of_ble_eq_true rfl) dX6_run_94 (fun ws9 H9 lc9 u9 w9 => ?_)
          have hR9 := RpM.sc (f := upd (s_c ((sp_move S7 (s_l S7 (k * 5)) (s_l S7 (k * 5 + 1)) (s_l S7 (k * 5 + 2)) (s_l S7 (k * 5 + 3)) (s_l S7 (k * 5 + 4))).2)) 0 0) w12.2.1 p12.2 r1 u9 rfl
          refine lv_iload_n hx hb dX6_run_97 rfl (lv_at hl 3 rfl) ?_
          exact ew_i S9 hr hlk w9 (by unfold sp_run; rw [cl_nI hP0 (by omega), hend]; exact ⟨hv, hR9⟩) dX6_run_98 (by decide) (by decide)
      · refine lv_iconst (v := 1) hx hb dX6_run_73 (by decide) ?_
        refine lv_goto (tgt := 78) hx hb dX6_run_74 (by decide) ?_
        refine lv_istore_n (lv' := [(2, .int 1), (4, .int v1), (3, .int y), (1, .int v), (0, .ref x)]) hx hb dX6_run_78 rfl hl (by decide) rfl (fun ls hl => ?_)
        refine lv_iload_n hx hb dX6_run_79 rfl (lv_at hl 0 rfl) ?_
        refine lv_if_eq (tgt := 86) hx hb dX6_run_80 (by decide) (fun c_80 => absurd c_80 (by decide)) (fun c_80 => ?_)
        obtain ⟨v12, ev12⟩ : ∃ z : Int32, z = v + 1 := ⟨_, rfl⟩
        refine lv_iinc (v := v12) (lv' := [(1, .int v12), (2, .int 1), (4, .int v1), (3, .int y), (0, .ref x)]) hx hb dX6_run_83 hl (k := 3) rfl (by rw [ev12]; rfl) (by decide) rfl (fun ls hl => ?_)
        obtain ⟨v13, ev13⟩ : ∃ z : Int32, z = y + 1 := ⟨_, rfl⟩
        refine lv_iinc (v := v13) (lv' := [(3, .int v13), (1, .int v12), (2, .int 1), (4, .int v1), (0, .ref x)]) hx hb dX6_run_86 hl (k := 3) rfl (by rw [ev13]; rfl) (by decide) rfl (fun ls hl => ?_)
        refine lv_goto (tgt := 6) hx hb dX6_run_89 (by decide) ?_
        exact ih (ls := ls) (k := k + 1) (v := v12) (y := v13) (S7 := (sp_move S7 (s_l S7 (k * 5)) (s_l S7 (k * 5 + 1)) (s_l S7 (k * 5 + 2)) (s_l S7 (k * 5 + 3)) (s_l S7 (k * 5 + 4))).2) (ws7 := u12) (H7 := H12) (lc7 := lc12) (hk := by omega) (hv := by rw [ev12, hv]; exact nI_1 k) (hy := by rw [ev13, hy]; exact nI_1 k) (hI7 := inv_move hI7 _ _ _ _ _) (hc7 := by rw [← hc7]; exact (mvc_0 _ _ _)) (hr7 := by rw [hr7, runF_go hk4 (p12.1.symm.trans c_70)]) (hl := lv_sub hl [0, 2, 1, 4] rfl) (w7 := w12) (hR7 := p12.2) (ht := by omega)
