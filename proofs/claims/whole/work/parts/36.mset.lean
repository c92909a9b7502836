theorem seg {S : St} (hI : Inv S) {h h' : Nat} {o o' : Ob} (ho : s_o S h = some o) (ho' : s_o S h' = some o') (hn : h ≠ h') {j : Nat} (hj : j < o_n o) : h + 1 + j ≠ h' ∧ ∀ j', j' < o_n o' → h + 1 + j ≠ h' + 1 + j' := by
  have g := hI.2.2.2.2.1
  rcases Nat.lt_or_ge h h' with q | q
  · have := g h h' o o' ho ho' q
    exact ⟨by omega, fun j' hj' => by omega⟩
  · have := g h' h o' o ho' ho (by omega)
    exact ⟨by omega, fun j' hj' => by omega⟩
/-- an element of the reference's row changes, and with it an object's -/
theorem HpM.one {S : St} (hI : Inv S) {hf : Nat → Int64} (m6 : HpM S hf) {h : Nat} {o o2 : Ob} (ho : s_o S h = some o) (hk : o_k o2 = o_k o) (hn : o_n o2 = o_n o) (hv : o_v o2 = o_v o) {i : Nat} (hi : i < o_n o) {v : Int64} (h3 : o_k o ≤ 3 → ∀ j, j < o_n o → o_f o2 j = if j = i then v else o_f o j) (h6 : 4 ≤ o_k o → o_k o ≤ 6 → ∀ j, j < o_n o → lN (encO (o_e o2 j)) = if j = i then v else lN (encO (o_e o j))) : HpM (s_put S h o2) (vp_updL hf (h + 1 + i) v) := by
  obtain ⟨g1, g2⟩ := m6
  have bs := (hI.2.2.2.1 h o ho).2.2
  refine ⟨fun a oa ha => ?_, fun j hj hj6 => ?_⟩
  · by_cases hah : a = h
    · subst hah
      have e : oa = o2 := by
        have := ha.symm.trans (va_up_eq (f := s_o S) (k := a) (v := some o2))
        cases this
        rfl
      subst e
      obtain ⟨q1, q2, q3⟩ := g1 a o ho
      refine ⟨?_, fun z j hj => ?_, fun z z' j hj => ?_⟩
      · rw [pk_uLn (by omega), q1]
        unfold hdO loV
        rw [hk, hn, hv]
      · rw [hn] at hj
        rw [hk] at z
        rw [h3 z j hj]
        by_cases hji : j = i
        · subst hji; rw [pk_uLs, if_pos rfl]
        · rw [pk_uLn (by omega), if_neg hji]; exact q2 z j hj
      · rw [hn] at hj
        rw [hk] at z z'
        rw [h6 z z' j hj]
        by_cases hji : j = i
        · subst hji; rw [pk_uLs, if_pos rfl]
        · rw [pk_uLn (by omega), if_neg hji]; exact q3 z z' j hj
    · have ha0 : s_o S a = some oa := by rw [← ha]; exact (va_up_ne (s_o S) _ hah).symm
      obtain ⟨q1, q2, q3⟩ := g1 a oa ha0
      have sg := seg hI ho ha0 (Ne.symm hah) hi
      refine ⟨by rw [pk_uLn (fun z => sg.1 z.symm)]; exact q1, fun z j hj => by rw [pk_uLn (fun z => sg.2 j hj z.symm)]; exact q2 z j hj, fun z z' j hj => by rw [pk_uLn (fun z => sg.2 j hj z.symm)]; exact q3 z z' j hj⟩
  · rw [pk_uLn (by have : s_u S ≤ j := hj; omega)]
    exact g2 j hj hj6
theorem HpM.num {S : St} (hI : Inv S) {hf : Nat → Int64} (m6 : HpM S hf) {h : Nat} {o : Ob} (ho : s_o S h = some o) (hk : o_k o ≤ 3) {i : Nat} (hi : i < o_n o) {v9 : Int64} : HpM (s_put S h (o_setf o (vp_updL (o_f o) i v9))) (vp_updL hf (h + 1 + i) v9) :=
  HpM.one (o2 := o_setf o (vp_updL (o_f o) i v9)) hI m6 ho rfl rfl rfl hi (fun _ j _ => rfl) (fun z => absurd z (by omega))
theorem HpM.els1 {S : St} (hI : Inv S) {hf : Nat → Int64} (m6 : HpM S hf) {h : Nat} {o : Ob} (ho : s_o S h = some o) (hk : 4 ≤ o_k o) (hm : o_k o ≤ 6) {i : Nat} (hi : i < o_n o) {r : Option Nat} : HpM (s_put S h (o_sete o (va_up (o_e o) i r))) (vp_updL hf (h + 1 + i) (lN (encO r))) :=
  HpM.one (o2 := o_sete o (va_up (o_e o) i r)) hI m6 ho rfl rfl rfl hi (fun z => absurd z (by omega)) (fun _ _ j _ => by
    show lN (encO (va_up (o_e o) i r j)) = _
    by_cases hj : j = i
    · subst hj; rw [va_up_self, if_pos rfl]
    · rw [va_up_ne _ _ hj, if_neg hj])
theorem RpM.hpf {G : Gt} {x ha at_ li : Nat} {S2 : St} {A : Nat → Prop} {ws ws' : va_W} {hf hf2 : Nat → Int64} {af : Nat → Int32} (hD : va_D A ws) (m1 : hp ws x (oM ha at_ li (nI (s_u S2)) (s_c S2))) (m2 : hp ws ha (aJ G 60000 hf)) (m3 : hp ws at_ (aI G 400 af)) (m4 : hp ws li (aI G 320 (s_l S2))) (m5 : ∀ i, i < 400 → af i = nI (encO (s_s S2 i))) (hW : hu ws ha (aJ G 60000 hf2) ws') (h6 : HpM S2 hf2) : RpM G x ha at_ li S2 ws' := by
  obtain ⟨⟨n1, n2, n3⟩, n4, n5, n6⟩ := mne hD m1 m2 m3 m4
  exact ⟨hf2, af, hW.keep n1 m1, hW.1, hW.keep n4.symm m3, hW.keep n5.symm m4, m5, h6⟩
set_option maxHeartbeats 4000000 in
set_option maxRecDepth 100000 in
theorem c_mfitted (l : Launch) {G : Gt} {ws : va_W} (sz : Nat) (k : Nat) (hk : k ≤ 3) (v : Int64) : Met l yX6_fitted wsX6_fitted ({ frames := 1, cells := 0, slots := 0, locals := 32 } : Room) (Pw G [.int (nI k), .long v] ws sz) (vp_Sl (fun r : Int64 => r = narK k v)) 0 0 (fun _ => False) := by
  refine Met_pw (cc := cX6_fitted) (maxL := 3) (ret := (some .long)) (by decide) rfl (Nat.le_of_ble_eq_true rfl) ?_
  intro p e s m below meth c ls hsz S9 hr hlk hnm w hl
  subst hsz
  replace S9 : CallFix p m c cX6_fitted 3 s _ wsX6_fitted RX6 := S9
  have hx := S9.1
  have hb := S9.2.1
  have hown := S9.2.2.2.1
  have hts := S9.2.2.2.2
  replace hl : lv_has ls 3 [(0, .int (nI k)), (1, .long v)] := hl
  refine lv_iload_n hx hb dX6_fitted_0 rfl (lv_at hl 0 rfl) ?_
  rcases (show k = 0 ∨ k = 1 ∨ k = 2 ∨ k = 3 by omega) with rfl | rfl | rfl | rfl
  · refine lv_tableIn (off := 27) (tgt := 28) hx hb dX6_fitted_1 (by decide) (by decide) (by decide) (by decide) ?_
    refine lv_lload_n hx hb dX6_fitted_28 rfl (lv_at hl 1 rfl) ?_
    obtain ⟨v1, ev1⟩ : ∃ z : Int32, Int64.toInt32 v = z := ⟨_, rfl⟩
    refine lv_l2i (v := v1) hx hb dX6_fitted_29 ev1 ?_
    obtain ⟨v2, ev2⟩ : ∃ z : Int64, Int32.toInt64 v1 = z := ⟨_, rfl⟩
    refine lv_i2l (v := v2) hx hb dX6_fitted_30 ev2 ?_
    exact e_l S9 hr hlk (by subst_vars; rfl) dX6_fitted_31
  · refine lv_tableIn (off := 31) (tgt := 32) hx hb dX6_fitted_1 (by decide) (by decide) (by decide) (by decide) ?_
    refine lv_lload_n hx hb dX6_fitted_32 rfl (lv_at hl 1 rfl) ?_
    exact e_l S9 hr hlk (by subst_vars; rfl) dX6_fitted_33
  · refine lv_tableIn (off := 33) (tgt := 34) hx hb dX6_fitted_1 (by decide) (by decide) (by decide) (by decide) ?_
    refine lv_lload_n hx hb dX6_fitted_34 rfl (lv_at hl 1 rfl) ?_
    obtain ⟨v3, ev3⟩ : ∃ z : Int32, Int64.toInt32 v = z := ⟨_, rfl⟩
    refine lv_l2i (v := v3) hx hb dX6_fitted_35 ev3 ?_
    obtain ⟨v4, ev4⟩ : ∃ z : Int32, (Int32.toInt8 v3).toInt32 = z := ⟨_, rfl⟩
    refine lv_i2b (v := v4) hx hb dX6_fitted_36 ev4 ?_
    obtain ⟨v5, ev5⟩ : ∃ z : Int64, Int32.toInt64 v4 = z := ⟨_, rfl⟩
    refine lv_i2l (v := v5) hx hb dX6_fitted_37 ev5 ?_
    exact e_l S9 hr hlk (by subst_vars; rfl) dX6_fitted_38
  · refine lv_tableOut (tgt := 39) hx hb dX6_fitted_1 (by decide) (by decide) ?_
    refine lv_lload_n hx hb dX6_fitted_39 rfl (lv_at hl 1 rfl) ?_
    refine k_sl S9 w (c_mrounded l _ v) (va_cwS 1 hts gX6_fitted_X6_rounded rfl rfl rfl (by decide +kernel) ⟨Nat.le_of_ble_eq_true rfl, Nat.le_of_ble_eq_true rfl⟩) rfl hl.1 rfl (Nat.le_of_ble_eq_true rfl) dX6_fitted_40 ⟨Nat.le_of_ble_eq_true rfl, Nat.le_of_ble_eq_true rfl⟩ (fun v7 e7 => ?_)
    exact e_l S9 hr hlk (by subst_vars; rfl) dX6_fitted_43

set_option maxHeartbeats 4000000 in
set_option maxRecDepth 100000 in
theorem c_mset (l : Launch) {G : Gt} {ws : va_W} (sz : Nat) {x ha at_ li : Nat} {S : St} (hR : RpM G x ha at_ li S ws) (hI : Inv S) (pl i : Int32) (v : Int64) : Met l yX6_set wsX6_set ({ frames := 2, cells := 0, slots := 0, locals := 54 } : Room) (Pw G [.ref x, .int pl, .int i, .long v] ws sz) (va_Qi (fun (r : Int32) (u : va_W) => r = (sp_set S pl i v).1 ∧ RpM G x ha at_ li (sp_set S pl i v).2 u) (Bw G ws sz) (va_A ws sz)) 0 0 (va_A ws sz) := by
  refine Met_pw (cc := cX6_set) (maxL := 6) (ret := (some .int)) (by decide) rfl (Nat.le_of_ble_eq_true rfl) ?_
  intro p e s m below meth c ls hsz S9 hr hlk hnm w hl
  subst hsz
  replace S9 : CallFix p m c cX6_set 6 s _ wsX6_set RX6 := S9
  have hx := S9.1
  have hb := S9.2.1
  have hown := S9.2.2.2.1
  have hts := S9.2.2.2.2
  replace hl : lv_has ls 6 [(0, .ref x), (1, .int pl), (2, .int i), (3, .long v)] := hl
  obtain ⟨hf, af, m1, m2, m3, m4, m5, m6⟩ := id hR
  refine lv_aload_n hx hb dX6_set_0 rfl (lv_at hl 0 rfl) ?_
  refine lv_iload_n hx hb dX6_set_1 rfl (lv_at hl 1 rfl) ?_
  refine kx_in S9 w hR hI gX6_set_X6_in hl.1 (Nat.le_of_ble_eq_true rfl) dX6_set_2 ⟨Nat.le_of_ble_eq_true rfl, Nat.le_of_ble_eq_true rfl⟩ ⟨Nat.le_of_ble_eq_true rfl, Nat.le_of_ble_eq_true rfl⟩ (fun i_2 => ?_) (fun h o i_2 ho => ?_)
  · refine lv_istore (lv' := [(5, .int (-1)), (0, .ref x), (1, .int pl), (2, .int i), (3, .long v)]) hx hb dX6_set_5 hl (by decide) rfl (fun ls hl => ?_)
    refine lv_iload hx hb dX6_set_7 (lv_at hl 0 rfl) ?_
    refine lv_if_ge (tgt := 14) hx hb dX6_set_9 (by decide) (fun c_9 => absurd c_9 (by decide)) (fun c_9 => ?_)
    refine lv_iconst (v := 1) hx hb dX6_set_12 (by decide) ?_
    exact ew_i S9 hr hlk w (by rw [show sp_set S pl i v = (1, S) from by simp [sp_set, i_2]]; exact ⟨rfl, hR⟩) dX6_set_13 (by decide) (by decide)
  · rcases (show o_k o ≤ 3 ∨ (4 ≤ o_k o ∧ o_k o ≤ 6) ∨ 7 ≤ o_k o by omega) with hk | ⟨hk, hm⟩ | hk
    · refine lv_istore (lv' := [(5, .int (nI h)), (0, .ref x), (1, .int pl), (2, .int i), (3, .long v)]) hx hb dX6_set_5 hl (by decide) rfl (fun ls hl => ?_)
      refine lv_iload hx hb dX6_set_7 (lv_at hl 0 rfl) ?_
      refine lv_if_ge (tgt := 14) hx hb dX6_set_9 (by decide) (fun c_9 => ?_) (fun c_9 => absurd (nI_pos' (by have := hI.hd ho; omega)) c_9)
      refine lv_aload_n hx hb dX6_set_14 rfl (lv_at hl 1 rfl) ?_
      refine lv_iload hx hb dX6_set_15 (lv_at hl 0 rfl) ?_
      refine k_vi S9 w (c_misThing l _ hR hI ho) m1 rfl (cwV 1 hts gX6_set_X6_isThing rfl rfl rfl (by decide +kernel) ⟨Nat.le_of_ble_eq_true rfl, Nat.le_of_ble_eq_true rfl⟩) rfl hl.1 rfl (Nat.le_of_ble_eq_true rfl) dX6_set_17 ⟨Nat.le_of_ble_eq_true rfl, Nat.le_of_ble_eq_true rfl⟩ (fun r1 er1 => ?_)
      rw [if_neg (by omega)] at er1
      subst er1
      refine lv_if_eq (tgt := 25) hx hb dX6_set_20 (by decide) (fun c_20 => ?_) (fun c_20 => absurd c_20 (by decide))
      refine lv_aload_n hx hb dX6_set_25 rfl (lv_at hl 1 rfl) ?_
      refine lv_iload hx hb dX6_set_26 (lv_at hl 0 rfl) ?_
      refine k_vi S9 w (c_misOfObjects l _ hR hI ho) m1 rfl (cwV 1 hts gX6_set_X6_isOfObjects rfl rfl rfl (by decide +kernel) ⟨Nat.le_of_ble_eq_true rfl, Nat.le_of_ble_eq_true rfl⟩) rfl hl.1 rfl (Nat.le_of_ble_eq_true rfl) dX6_set_28 ⟨Nat.le_of_ble_eq_true rfl, Nat.le_of_ble_eq_true rfl⟩ (fun r2 er2 => ?_)
      rw [if_neg (by omega)] at er2
      subst er2
      refine lv_if_eq (tgt := 36) hx hb dX6_set_31 (by decide) (fun c_31 => ?_) (fun c_31 => absurd c_31 (by decide))
      refine lv_aload_n hx hb dX6_set_36 rfl (lv_at hl 1 rfl) ?_
      refine lv_iload hx hb dX6_set_37 (lv_at hl 0 rfl) ?_
      refine lv_iload_n hx hb dX6_set_39 rfl (lv_at hl 3 rfl) ?_
      refine k_vi S9 w (c_misElement l _ hR hI ho (by omega) i) m1 rfl (cwV 2 hts gX6_set_X6_isElement rfl rfl rfl (by decide +kernel) ⟨Nat.le_of_ble_eq_true rfl, Nat.le_of_ble_eq_true rfl⟩) rfl hl.1 rfl (Nat.le_of_ble_eq_true rfl) dX6_set_40 ⟨Nat.le_of_ble_eq_true rfl, Nat.le_of_ble_eq_true rfl⟩ (fun r3 er3 => ?_)
      rcases Decidable.em (inE (o_n o) i) with hE | hE
      · rw [if_pos hE] at er3
        subst er3
        refine lv_if_ne (tgt := 48) hx hb dX6_set_43 (by decide) (fun c_43 => ?_) (fun c_43 => absurd c_43 (by decide))
        refine lv_aload_n hx hb dX6_set_48 rfl (lv_at hl 1 rfl) ?_
        refine r_get (ref := "SpanMoverModel") S9 w m1 rfl (by decide +kernel) 0 (by decide) (by decide +kernel) (Or.inl rfl) rfl dX6_set_49 ?_
        refine lv_iload hx hb dX6_set_52 (lv_at hl 0 rfl) ?_
        refine lv_iconst (v := 1) hx hb dX6_set_54 (by decide) ?_
        refine lv_iadd hx hb dX6_set_55 ?_
        refine lv_topi (fun v4 ev4 => ?_)
        refine lv_iload_n hx hb dX6_set_56 rfl (lv_at hl 3 rfl) ?_
        refine lv_iadd hx hb dX6_set_57 ?_
        refine lv_topi (fun v5 ev5 => ?_)
        refine lv_aload_n hx hb dX6_set_58 rfl (lv_at hl 1 rfl) ?_
        refine lv_iload hx hb dX6_set_59 (lv_at hl 0 rfl) ?_
        refine k_vi S9 w (c_mkind l _ hR hI ho) m1 rfl (cwV 1 hts gX6_set_X6_kind rfl rfl rfl (by decide +kernel) ⟨Nat.le_of_ble_eq_true rfl, Nat.le_of_ble_eq_true rfl⟩) rfl hl.1 rfl (Nat.le_of_ble_eq_true rfl) dX6_set_61 ⟨Nat.le_of_ble_eq_true rfl, Nat.le_of_ble_eq_true rfl⟩ (fun r6 er6 => ?_)
        subst er6
        refine lv_lload_n hx hb dX6_set_64 rfl (lv_at hl 4 rfl) ?_
        refine k_sl S9 w (c_mfitted l _ (o_k o) hk v) (va_cwS 2 hts gX6_set_X6_fitted rfl rfl rfl (by decide +kernel) ⟨Nat.le_of_ble_eq_true rfl, Nat.le_of_ble_eq_true rfl⟩) rfl hl.1 rfl (Nat.le_of_ble_eq_true rfl) dX6_set_65 ⟨Nat.le_of_ble_eq_true rfl, Nat.le_of_ble_eq_true rfl⟩ (fun v9 e9 => ?_)
        obtain ⟨i', hi', ei⟩ := vp_in_of (inE_in hE (by have := (hI.ob ho).2; omega)) (by have := (hI.ob ho).2; omega)
        have yi : i.toNatClampNeg = i' := cl_nI ei (by have := (hI.ob ho).2; omega)
        have bs := (hI.2.2.2.1 h o ho).2.2
        have bu := hI.1
        have xi : v5 = nI (h + 1 + i') := by rw [ev5, ev4, ei]; exact (congrArg (· + nI i') (nI_1 h)).trans (nI_add (h + 1) i')
        refine r_last S9 w m2 (by rw [xi]; exact vp_in_nI (by omega) (by decide)) dX6_set_68 (fun ws8 H8 lc8 u8 w8 => ?_)
        rw [cl_nI xi (by omega)] at u8
        have hR8 := RpM.hpf (S2 := s_put S h (o_setf o (vp_updL (o_f o) i' v9))) w.2.1 m1 m2 m3 m4 m5 u8 (HpM.num hI m6 ho hk hi' (v9 := v9))
        refine lv_iconst (v := 0) hx hb dX6_set_69 (by decide) ?_
        exact ew_i S9 hr hlk w8 (by rw [show sp_set S pl i v = (0, s_put S h (o_setf o (vp_updL (o_f o) i' v9))) from by have er : ref1 (some o) i 0 3 = 0 := (ref1_nat (o := o) (i := i) (a := 0) (b := 3) (by omega) (by decide) (by decide)).trans (by rw [if_neg (by omega), if_pos (by omega), if_pos hE]); rw [e9]; simp [sp_set, i_2, ho, er, yi]]; exact ⟨rfl, hR8⟩) dX6_set_70 (by decide) (by decide)
      · rw [if_neg hE] at er3
        subst er3
        refine lv_if_ne (tgt := 48) hx hb dX6_set_43 (by decide) (fun c_43 => absurd c_43 (by decide)) (fun c_43 => ?_)
        refine lv_iconst (v := 4) hx hb dX6_set_46 (by decide) ?_
        exact ew_i S9 hr hlk w (by rw [show sp_set S pl i v = (4, S) from by have er : ref1 (some o) i 0 3 = 4 := (ref1_nat (o := o) (i := i) (a := 0) (b := 3) (by omega) (by decide) (by decide)).trans (by rw [if_neg (by omega), if_pos (by omega), if_neg hE]); simp [sp_set, i_2, ho, er]]; exact ⟨rfl, hR⟩) dX6_set_47 (by decide) (by decide)
    · refine lv_istore (lv' := [(5, .int (nI h)), (0, .ref x), (1, .int pl), (2, .int i), (3, .long v)]) hx hb dX6_set_5 hl (by decide) rfl (fun ls hl => ?_)
      refine lv_iload hx hb dX6_set_7 (lv_at hl 0 rfl) ?_
      refine lv_if_ge (tgt := 14) hx hb dX6_set_9 (by decide) (fun c_9 => ?_) (fun c_9 => absurd (nI_pos' (by have := hI.hd ho; omega)) c_9)
      refine lv_aload_n hx hb dX6_set_14 rfl (lv_at hl 1 rfl) ?_
      refine lv_iload hx hb dX6_set_15 (lv_at hl 0 rfl) ?_
      refine k_vi S9 w (c_misThing l _ hR hI ho) m1 rfl (cwV 1 hts gX6_set_X6_isThing rfl rfl rfl (by decide +kernel) ⟨Nat.le_of_ble_eq_true rfl, Nat.le_of_ble_eq_true rfl⟩) rfl hl.1 rfl (Nat.le_of_ble_eq_true rfl) dX6_set_17 ⟨Nat.le_of_ble_eq_true rfl, Nat.le_of_ble_eq_true rfl⟩ (fun r7 er7 => ?_)
      rw [if_neg (by omega)] at er7
      subst er7
      refine lv_if_eq (tgt := 25) hx hb dX6_set_20 (by decide) (fun c_20 => ?_) (fun c_20 => absurd c_20 (by decide))
      refine lv_aload_n hx hb dX6_set_25 rfl (lv_at hl 1 rfl) ?_
      refine lv_iload hx hb dX6_set_26 (lv_at hl 0 rfl) ?_
      refine k_vi S9 w (c_misOfObjects l _ hR hI ho) m1 rfl (cwV 1 hts gX6_set_X6_isOfObjects rfl rfl rfl (by decide +kernel) ⟨Nat.le_of_ble_eq_true rfl, Nat.le_of_ble_eq_true rfl⟩) rfl hl.1 rfl (Nat.le_of_ble_eq_true rfl) dX6_set_28 ⟨Nat.le_of_ble_eq_true rfl, Nat.le_of_ble_eq_true rfl⟩ (fun r8 er8 => ?_)
      rw [if_pos (by omega)] at er8
      subst er8
      refine lv_if_eq (tgt := 36) hx hb dX6_set_31 (by decide) (fun c_31 => absurd c_31 (by decide)) (fun c_31 => ?_)
      refine lv_iconst (v := 3) hx hb dX6_set_34 (by decide) ?_
      exact ew_i S9 hr hlk w (by rw [show sp_set S pl i v = (3, S) from by have er : ref1 (some o) i 0 3 = 3 := (ref1_nat (o := o) (i := i) (a := 0) (b := 3) (by omega) (by decide) (by decide)).trans (by rw [if_neg (by omega), if_neg (by omega)]); simp [sp_set, i_2, ho, er]]; exact ⟨rfl, hR⟩) dX6_set_35 (by decide) (by decide)
    · refine lv_istore (lv' := [(5, .int (nI h)), (0, .ref x), (1, .int pl), (2, .int i), (3, .long v)]) hx hb dX6_set_5 hl (by decide) rfl (fun ls hl => ?_)
      refine lv_iload hx hb dX6_set_7 (lv_at hl 0 rfl) ?_
      refine lv_if_ge (tgt := 14) hx hb dX6_set_9 (by decide) (fun c_9 => ?_) (fun c_9 => absurd (nI_pos' (by have := hI.hd ho; omega)) c_9)
      refine lv_aload_n hx hb dX6_set_14 rfl (lv_at hl 1 rfl) ?_
      refine lv_iload hx hb dX6_set_15 (lv_at hl 0 rfl) ?_
      refine k_vi S9 w (c_misThing l _ hR hI ho) m1 rfl (cwV 1 hts gX6_set_X6_isThing rfl rfl rfl (by decide +kernel) ⟨Nat.le_of_ble_eq_true rfl, Nat.le_of_ble_eq_true rfl⟩) rfl hl.1 rfl (Nat.le_of_ble_eq_true rfl) dX6_set_17 ⟨Nat.le_of_ble_eq_true rfl, Nat.le_of_ble_eq_true rfl⟩ (fun r9 er9 => ?_)
      rw [if_pos (by omega)] at er9
      subst er9
      refine lv_if_eq (tgt := 25) hx hb dX6_set_20 (by decide) (fun c_20 => absurd c_20 (by decide)) (fun c_20 => ?_)
      refine lv_iconst (v := 2) hx hb dX6_set_23 (by decide) ?_
      exact ew_i S9 hr hlk w (by rw [show sp_set S pl i v = (2, S) from by simp [sp_set, i_2, ho, ref1_thg hk]]; exact ⟨rfl, hR⟩) dX6_set_24 (by decide) (by decide)

set_option maxHeartbeats 4000000 in
set_option maxRecDepth 100000 in
theorem c_msetThing (l : Launch) {G : Gt} {ws : va_W} (sz : Nat) {x ha at_ li : Nat} {S : St} (hR : RpM G x ha at_ li S ws) (hI : Inv S) (pl i th : Int32) : Met l yX6_setThing wsX6_setThing ({ frames := 2, cells := 0, slots := 0, locals := 44 } : Room) (Pw G [.ref x, .int pl, .int i, .int th] ws sz) (va_Qi (fun (r : Int32) (u : va_W) => r = (sp_setThing S pl i th).1 ∧ RpM G x ha at_ li (sp_setThing S pl i th).2 u) (Bw G ws sz) (va_A ws sz)) 0 0 (va_A ws sz) := by
  refine Met_pw (cc := cX6_setThing) (maxL := 6) (ret := (some .int)) (by decide) rfl (Nat.le_of_ble_eq_true rfl) ?_
  intro p e s m below meth c ls hsz S9 hr hlk hnm w hl
  subst hsz
  replace S9 : CallFix p m c cX6_setThing 6 s _ wsX6_setThing RX6 := S9
  have hx := S9.1
  have hb := S9.2.1
  have hown := S9.2.2.2.1
  have hts := S9.2.2.2.2
  replace hl : lv_has ls 6 [(0, .ref x), (1, .int pl), (2, .int i), (3, .int th)] := hl
  obtain ⟨hf, af, m1, m2, m3, m4, m5, m6⟩ := id hR
  refine lv_aload_n hx hb dX6_setThing_0 rfl (lv_at hl 0 rfl) ?_
  refine lv_iload_n hx hb dX6_setThing_1 rfl (lv_at hl 1 rfl) ?_
  refine kx_in S9 w hR hI gX6_setThing_X6_in hl.1 (Nat.le_of_ble_eq_true rfl) dX6_setThing_2 ⟨Nat.le_of_ble_eq_true rfl, Nat.le_of_ble_eq_true rfl⟩ ⟨Nat.le_of_ble_eq_true rfl, Nat.le_of_ble_eq_true rfl⟩ (fun i_2 => ?_) (fun h o i_2 ho => ?_)
  · refine lv_istore (lv' := [(4, .int (-1)), (0, .ref x), (1, .int pl), (2, .int i), (3, .int th)]) hx hb dX6_setThing_5 hl (by decide) rfl (fun ls hl => ?_)
    refine lv_aload_n hx hb dX6_setThing_7 rfl (lv_at hl 1 rfl) ?_
    refine lv_iload_n hx hb dX6_setThing_8 rfl (lv_at hl 4 rfl) ?_
    refine kx_in S9 w hR hI gX6_setThing_X6_in hl.1 (Nat.le_of_ble_eq_true rfl) dX6_setThing_9 ⟨Nat.le_of_ble_eq_true rfl, Nat.le_of_ble_eq_true rfl⟩ ⟨Nat.le_of_ble_eq_true rfl, Nat.le_of_ble_eq_true rfl⟩ (fun i_9 => ?_) (fun h9 o9 i_9 ho9 => ?_)
    · refine lv_istore (lv' := [(5, .int (-1)), (4, .int (-1)), (0, .ref x), (1, .int pl), (2, .int i), (3, .int th)]) hx hb dX6_setThing_12 hl (by decide) rfl (fun ls hl => ?_)
      refine lv_iload hx hb dX6_setThing_14 (lv_at hl 1 rfl) ?_
      refine lv_if_lt (tgt := 29) hx hb dX6_setThing_16 (by decide) (fun c_16 => ?_) (fun c_16 => absurd c_16 (by decide))
      refine lv_iconst (v := 1) hx hb dX6_setThing_29 (by decide) ?_
      exact ew_i S9 hr hlk w (by rw [show sp_setThing S pl i th = (1, S) from by exact st_N i_2]; exact ⟨rfl, hR⟩) dX6_setThing_30 (by decide) (by decide)
    · refine lv_istore (lv' := [(5, .int (nI h9)), (4, .int (-1)), (0, .ref x), (1, .int pl), (2, .int i), (3, .int th)]) hx hb dX6_setThing_12 hl (by decide) rfl (fun ls hl => ?_)
      refine lv_iload hx hb dX6_setThing_14 (lv_at hl 1 rfl) ?_
      refine lv_if_lt (tgt := 29) hx hb dX6_setThing_16 (by decide) (fun c_16 => ?_) (fun c_16 => absurd c_16 (by decide))
      refine lv_iconst (v := 1) hx hb dX6_setThing_29 (by decide) ?_
      exact ew_i S9 hr hlk w (by rw [show sp_setThing S pl i th = (1, S) from by exact st_N i_2]; exact ⟨rfl, hR⟩) dX6_setThing_30 (by decide) (by decide)
  · rcases (show o_k o ≤ 3 ∨ (4 ≤ o_k o ∧ o_k o ≤ 6) ∨ 7 ≤ o_k o by omega) with hk | ⟨hk, hm⟩ | hk
    · refine lv_istore (lv' := [(4, .int (nI h)), (0, .ref x), (1, .int pl), (2, .int i), (3, .int th)]) hx hb dX6_setThing_5 hl (by decide) rfl (fun ls hl => ?_)
      refine lv_aload_n hx hb dX6_setThing_7 rfl (lv_at hl 1 rfl) ?_
      refine lv_iload_n hx hb dX6_setThing_8 rfl (lv_at hl 4 rfl) ?_
      refine kx_in S9 w hR hI gX6_setThing_X6_in hl.1 (Nat.le_of_ble_eq_true rfl) dX6_setThing_9 ⟨Nat.le_of_ble_eq_true rfl, Nat.le_of_ble_eq_true rfl⟩ ⟨Nat.le_of_ble_eq_true rfl, Nat.le_of_ble_eq_true rfl⟩ (fun i_9 => ?_) (fun h9 o9 i_9 ho9 => ?_)
      · refine lv_istore (lv' := [(5, .int (-1)), (4, .int (nI h)), (0, .ref x), (1, .int pl), (2, .int i), (3, .int th)]) hx hb dX6_setThing_12 hl (by decide) rfl (fun ls hl => ?_)
        refine lv_iload hx hb dX6_setThing_14 (lv_at hl 1 rfl) ?_
        refine lv_if_lt (tgt := 29) hx hb dX6_setThing_16 (by decide) (fun c_16 => absurd c_16 (nI_pos (by have := hI.hd ho; omega))) (fun c_16 => ?_)
        refine lv_iload hx hb dX6_setThing_19 (lv_at hl 0 rfl) ?_
        refine lv_if_ge (tgt := 31) hx hb dX6_setThing_21 (by decide) (fun c_21 => absurd c_21 (by decide)) (fun c_21 => ?_)
        refine lv_iload_n hx hb dX6_setThing_24 rfl (lv_at hl 5 rfl) ?_
        refine lv_iconst (v := (-1)) hx hb dX6_setThing_25 (by decide) ?_
        refine lv_icmp_eq (tgt := 31) hx hb dX6_setThing_26 (by decide) (fun c_26 => ?_) (fun c_26 => ?_)
        · refine lv_aload_n hx hb dX6_setThing_31 rfl (lv_at hl 2 rfl) ?_
          refine lv_iload hx hb dX6_setThing_32 (lv_at hl 1 rfl) ?_
          refine k_vi S9 w (c_misThing l _ hR hI ho) m1 rfl (cwV 1 hts gX6_setThing_X6_isThing rfl rfl rfl (by decide +kernel) ⟨Nat.le_of_ble_eq_true rfl, Nat.le_of_ble_eq_true rfl⟩) rfl hl.1 rfl (Nat.le_of_ble_eq_true rfl) dX6_setThing_34 ⟨Nat.le_of_ble_eq_true rfl, Nat.le_of_ble_eq_true rfl⟩ (fun r1 er1 => ?_)
          rw [if_neg (by omega)] at er1
          subst er1
          refine lv_if_eq (tgt := 42) hx hb dX6_setThing_37 (by decide) (fun c_37 => ?_) (fun c_37 => absurd c_37 (by decide))
          refine lv_aload_n hx hb dX6_setThing_42 rfl (lv_at hl 2 rfl) ?_
          refine lv_iload hx hb dX6_setThing_43 (lv_at hl 1 rfl) ?_
          refine k_vi S9 w (c_misOfObjects l _ hR hI ho) m1 rfl (cwV 1 hts gX6_setThing_X6_isOfObjects rfl rfl rfl (by decide +kernel) ⟨Nat.le_of_ble_eq_true rfl, Nat.le_of_ble_eq_true rfl⟩) rfl hl.1 rfl (Nat.le_of_ble_eq_true rfl) dX6_setThing_45 ⟨Nat.le_of_ble_eq_true rfl, Nat.le_of_ble_eq_true rfl⟩ (fun r2 er2 => ?_)
          rw [if_neg (by omega)] at er2
          subst er2
          refine lv_if_ne (tgt := 53) hx hb dX6_setThing_48 (by decide) (fun c_48 => absurd c_48 (by decide)) (fun c_48 => ?_)
          refine lv_iconst (v := 3) hx hb dX6_setThing_51 (by decide) ?_
          exact ew_i S9 hr hlk w (by rw [show sp_setThing S pl i th = (3, S) from by have er : ref1 (some o) i 4 6 = 3 := (ref1_nat (o := o) (i := i) (a := 4) (b := 6) (by omega) (by decide) (by decide)).trans (by rw [if_pos (by omega)]); rw [← er]; exact st_no (fun q => q.2 c_26) i_2 ho (by rw [er]; decide)]; exact ⟨rfl, hR⟩) dX6_setThing_52 (by decide) (by decide)
        · refine lv_iconst (v := 1) hx hb dX6_setThing_29 (by decide) ?_
          exact ew_i S9 hr hlk w (by rw [show sp_setThing S pl i th = (1, S) from by exact st_1 i_9 c_26]; exact ⟨rfl, hR⟩) dX6_setThing_30 (by decide) (by decide)
      · refine lv_istore (lv' := [(5, .int (nI h9)), (4, .int (nI h)), (0, .ref x), (1, .int pl), (2, .int i), (3, .int th)]) hx hb dX6_setThing_12 hl (by decide) rfl (fun ls hl => ?_)
        refine lv_iload hx hb dX6_setThing_14 (lv_at hl 1 rfl) ?_
        refine lv_if_lt (tgt := 29) hx hb dX6_setThing_16 (by decide) (fun c_16 => absurd c_16 (nI_pos (by have := hI.hd ho; omega))) (fun c_16 => ?_)
        refine lv_iload hx hb dX6_setThing_19 (lv_at hl 0 rfl) ?_
        refine lv_if_ge (tgt := 31) hx hb dX6_setThing_21 (by decide) (fun c_21 => ?_) (fun c_21 => absurd (nI_pos' (by have := hI.hd ho9; omega)) c_21)
        refine lv_aload_n hx hb dX6_setThing_31 rfl (lv_at hl 2 rfl) ?_
        refine lv_iload hx hb dX6_setThing_32 (lv_at hl 1 rfl) ?_
        refine k_vi S9 w (c_misThing l _ hR hI ho) m1 rfl (cwV 1 hts gX6_setThing_X6_isThing rfl rfl rfl (by decide +kernel) ⟨Nat.le_of_ble_eq_true rfl, Nat.le_of_ble_eq_true rfl⟩) rfl hl.1 rfl (Nat.le_of_ble_eq_true rfl) dX6_setThing_34 ⟨Nat.le_of_ble_eq_true rfl, Nat.le_of_ble_eq_true rfl⟩ (fun r3 er3 => ?_)
        rw [if_neg (by omega)] at er3
        subst er3
        refine lv_if_eq (tgt := 42) hx hb dX6_setThing_37 (by decide) (fun c_37 => ?_) (fun c_37 => absurd c_37 (by decide))
        refine lv_aload_n hx hb dX6_setThing_42 rfl (lv_at hl 2 rfl) ?_
        refine lv_iload hx hb dX6_setThing_43 (lv_at hl 1 rfl) ?_
        refine k_vi S9 w (c_misOfObjects l _ hR hI ho) m1 rfl (cwV 1 hts gX6_setThing_X6_isOfObjects rfl rfl rfl (by decide +kernel) ⟨Nat.le_of_ble_eq_true rfl, Nat.le_of_ble_eq_true rfl⟩) rfl hl.1 rfl (Nat.le_of_ble_eq_true rfl) dX6_setThing_45 ⟨Nat.le_of_ble_eq_true rfl, Nat.le_of_ble_eq_true rfl⟩ (fun r4 er4 => ?_)
        rw [if_neg (by omega)] at er4
        subst er4
        refine lv_if_ne (tgt := 53) hx hb dX6_setThing_48 (by decide) (fun c_48 => absurd c_48 (by decide)) (fun c_48 => ?_)
        refine lv_iconst (v := 3) hx hb dX6_setThing_51 (by decide) ?_
        exact ew_i S9 hr hlk w (by rw [show sp_setThing S pl i th = (3, S) from by have er : ref1 (some o) i 4 6 = 3 := (ref1_nat (o := o) (i := i) (a := 4) (b := 6) (by omega) (by decide) (by decide)).trans (by rw [if_pos (by omega)]); rw [← er]; exact st_no (fun q => by rw [i_9] at q; exact absurd q.1 (by simp)) i_2 ho (by rw [er]; decide)]; exact ⟨rfl, hR⟩) dX6_setThing_52 (by decide) (by decide)
    · refine lv_istore (lv' := [(4, .int (nI h)), (0, .ref x), (1, .int pl), (2, .int i), (3, .int th)]) hx hb dX6_setThing_5 hl (by decide) rfl (fun ls hl => ?_)
      refine lv_aload_n hx hb dX6_setThing_7 rfl (lv_at hl 1 rfl) ?_
      refine lv_iload_n hx hb dX6_setThing_8 rfl (lv_at hl 4 rfl) ?_
      refine kx_in S9 w hR hI gX6_setThing_X6_in hl.1 (Nat.le_of_ble_eq_true rfl) dX6_setThing_9 ⟨Nat.le_of_ble_eq_true rfl, Nat.le_of_ble_eq_true rfl⟩ ⟨Nat.le_of_ble_eq_true rfl, Nat.le_of_ble_eq_true rfl⟩ (fun i_9 => ?_) (fun h9 o9 i_9 ho9 => ?_)
      · refine lv_istore (lv' := [(5, .int (-1)), (4, .int (nI h)), (0, .ref x), (1, .int pl), (2, .int i), (3, .int th)]) hx hb dX6_setThing_12 hl (by decide) rfl (fun ls hl => ?_)
        refine lv_iload hx hb dX6_setThing_14 (lv_at hl 1 rfl) ?_
        refine lv_if_lt (tgt := 29) hx hb dX6_setThing_16 (by decide) (fun c_16 => absurd c_16 (nI_pos (by have := hI.hd ho; omega))) (fun c_16 => ?_)
        refine lv_iload hx hb dX6_setThing_19 (lv_at hl 0 rfl) ?_
        refine lv_if_ge (tgt := 31) hx hb dX6_setThing_21 (by decide) (fun c_21 => absurd c_21 (by decide)) (fun c_21 => ?_)
        refine lv_iload_n hx hb dX6_setThing_24 rfl (lv_at hl 5 rfl) ?_
        refine lv_iconst (v := (-1)) hx hb dX6_setThing_25 (by decide) ?_
        refine lv_icmp_eq (tgt := 31) hx hb dX6_setThing_26 (by decide) (fun c_26 => ?_) (fun c_26 => ?_)
        · refine lv_aload_n hx hb dX6_setThing_31 rfl (lv_at hl 2 rfl) ?_
          refine lv_iload hx hb dX6_setThing_32 (lv_at hl 1 rfl) ?_
          refine k_vi S9 w (c_misThing l _ hR hI ho) m1 rfl (cwV 1 hts gX6_setThing_X6_isThing rfl rfl rfl (by decide +kernel) ⟨Nat.le_of_ble_eq_true rfl, Nat.le_of_ble_eq_true rfl⟩) rfl hl.1 rfl (Nat.le_of_ble_eq_true rfl) dX6_setThing_34 ⟨Nat.le_of_ble_eq_true rfl, Nat.le_of_ble_eq_true rfl⟩ (fun r5 er5 => ?_)
          rw [if_neg (by omega)] at er5
          subst er5
          refine lv_if_eq (tgt := 42) hx hb dX6_setThing_37 (by decide) (fun c_37 => ?_) (fun c_37 => absurd c_37 (by decide))
          refine lv_aload_n hx hb dX6_setThing_42 rfl (lv_at hl 2 rfl) ?_
          refine lv_iload hx hb dX6_setThing_43 (lv_at hl 1 rfl) ?_
          refine k_vi S9 w (c_misOfObjects l _ hR hI ho) m1 rfl (cwV 1 hts gX6_setThing_X6_isOfObjects rfl rfl rfl (by decide +kernel) ⟨Nat.le_of_ble_eq_true rfl, Nat.le_of_ble_eq_true rfl⟩) rfl hl.1 rfl (Nat.le_of_ble_eq_true rfl) dX6_setThing_45 ⟨Nat.le_of_ble_eq_true rfl, Nat.le_of_ble_eq_true rfl⟩ (fun r6 er6 => ?_)
          rw [if_pos (by omega)] at er6
          subst er6
          refine lv_if_ne (tgt := 53) hx hb dX6_setThing_48 (by decide) (fun c_48 => ?_) (fun c_48 => absurd c_48 (by decide))
          refine lv_aload_n hx hb dX6_setThing_53 rfl (lv_at hl 2 rfl) ?_
          refine lv_iload hx hb dX6_setThing_54 (lv_at hl 1 rfl) ?_
          refine lv_iload_n hx hb dX6_setThing_56 rfl (lv_at hl 4 rfl) ?_
          refine k_vi S9 w (c_misElement l _ hR hI ho (by omega) i) m1 rfl (cwV 2 hts gX6_setThing_X6_isElement rfl rfl rfl (by decide +kernel) ⟨Nat.le_of_ble_eq_true rfl, Nat.le_of_ble_eq_true rfl⟩) rfl hl.1 rfl (Nat.le_of_ble_eq_true rfl) dX6_setThing_57 ⟨Nat.le_of_ble_eq_true rfl, Nat.le_of_ble_eq_true rfl⟩ (fun r7 er7 => ?_)
          rcases Decidable.em (inE (o_n o) i) with hE | hE
          · rw [if_pos hE] at er7
            subst er7
            refine lv_if_ne (tgt := 65) hx hb dX6_setThing_60 (by decide) (fun c_60 => ?_) (fun c_60 => absurd c_60 (by decide))
            refine lv_aload_n hx hb dX6_setThing_65 rfl (lv_at hl 2 rfl) ?_
            refine lv_iload hx hb dX6_setThing_66 (lv_at hl 0 rfl) ?_
            refine lv_aload_n hx hb dX6_setThing_68 rfl (lv_at hl 2 rfl) ?_
            refine lv_iload hx hb dX6_setThing_69 (lv_at hl 1 rfl) ?_
            refine k_vi S9 w (c_mkind l _ hR hI ho) m1 rfl (cwV 1 hts gX6_setThing_X6_kind rfl rfl rfl (by decide +kernel) ⟨Nat.le_of_ble_eq_true rfl, Nat.le_of_ble_eq_true rfl⟩) rfl hl.1 rfl (Nat.le_of_ble_eq_true rfl) dX6_setThing_71 ⟨Nat.le_of_ble_eq_true rfl, Nat.le_of_ble_eq_true rfl⟩ (fun r8 er8 => ?_)
            subst er8
            refine k_vi S9 w (c_mfits_N l _ (nI (o_k o))) m1 rfl (cwV 2 hts gX6_setThing_X6_fits rfl rfl rfl (by decide +kernel) ⟨Nat.le_of_ble_eq_true rfl, Nat.le_of_ble_eq_true rfl⟩) rfl hl.1 rfl (Nat.le_of_ble_eq_true rfl) dX6_setThing_74 ⟨Nat.le_of_ble_eq_true rfl, Nat.le_of_ble_eq_true rfl⟩ (fun v10 e10 => ?_)
            subst e10
            refine lv_if_ne (tgt := 82) hx hb dX6_setThing_77 (by decide) (fun c_77 => ?_) (fun c_77 => absurd c_77 (by decide))
            refine lv_aload_n hx hb dX6_setThing_82 rfl (lv_at hl 2 rfl) ?_
            refine r_get (ref := "SpanMoverModel") S9 w m1 rfl (by decide +kernel) 0 (by decide) (by decide +kernel) (Or.inl rfl) rfl dX6_setThing_83 ?_
            refine lv_iload hx hb dX6_setThing_86 (lv_at hl 1 rfl) ?_
            refine lv_iconst (v := 1) hx hb dX6_setThing_88 (by decide) ?_
            refine lv_iadd hx hb dX6_setThing_89 ?_
            refine lv_topi (fun v9 ev9 => ?_)
            refine lv_iload_n hx hb dX6_setThing_90 rfl (lv_at hl 4 rfl) ?_
            refine lv_iadd hx hb dX6_setThing_91 ?_
            refine lv_topi (fun v10 ev10 => ?_)
            refine lv_iload hx hb dX6_setThing_92 (lv_at hl 0 rfl) ?_
            obtain ⟨v11, ev11⟩ : ∃ z : Int64, Int32.toInt64 (-1) = z := ⟨_, rfl⟩
            refine lv_i2l (v := v11) hx hb dX6_setThing_94 ev11 ?_
            refine lv_lconst (v := 1) hx hb dX6_setThing_95 (by decide) ?_
            refine lv_ladd hx hb dX6_setThing_96 ?_
            refine lv_topl (fun v12 ev12 => ?_)
            obtain ⟨i', hi', ei⟩ := vp_in_of (inE_in hE (by have := (hI.ob ho).2; omega)) (by have := (hI.ob ho).2; omega)
            have yi : i.toNatClampNeg = i' := cl_nI ei (by have := (hI.ob ho).2; omega)
            have bs := (hI.2.2.2.1 h o ho).2.2
            have bu := hI.1
            have xi : v10 = nI (h + 1 + i') := by rw [ev10, ev9, ei]; exact (congrArg (· + nI i') (nI_1 h)).trans (nI_add (h + 1) i')
            refine r_last S9 w m2 (by rw [xi]; exact vp_in_nI (by omega) (by decide)) dX6_setThing_97 (fun ws8 H8 lc8 u8 w8 => ?_)
            rw [cl_nI xi (by omega)] at u8
            have xv : v12 = lN (encO (none)) := by rw [ev12, ← ev11]; exact rfl
            rw [xv] at u8
            have hR8 := RpM.hpf (S2 := s_put S h (o_sete o (va_up (o_e o) i' (none)))) w.2.1 m1 m2 m3 m4 m5 u8 (HpM.els1 hI m6 ho hk hm hi' (r := none))
            refine lv_iconst (v := 0) hx hb dX6_setThing_98 (by decide) ?_
            exact ew_i S9 hr hlk w8 (by rw [show sp_setThing S pl i th = (0, s_put S h (o_sete o (va_up (o_e o) i' (none)))) from by have er : ref1 (some o) i 4 6 = 0 := (ref1_nat (o := o) (i := i) (a := 4) (b := 6) (by omega) (by decide) (by decide)).trans (by rw [if_neg (by omega), if_pos (by omega), if_pos hE]); rw [st_ok (fun q => q.2 c_26) i_2 ho er (by rw [i_9]; rfl), i_9, yi]]; exact ⟨rfl, hR8⟩) dX6_setThing_99 (by decide) (by decide)
          · rw [if_neg hE] at er7
            subst er7
            refine lv_if_ne (tgt := 65) hx hb dX6_setThing_60 (by decide) (fun c_60 => absurd c_60 (by decide)) (fun c_60 => ?_)
            refine lv_iconst (v := 4) hx hb dX6_setThing_63 (by decide) ?_
            exact ew_i S9 hr hlk w (by rw [show sp_setThing S pl i th = (4, S) from by have er : ref1 (some o) i 4 6 = 4 := (ref1_nat (o := o) (i := i) (a := 4) (b := 6) (by omega) (by decide) (by decide)).trans (by rw [if_neg (by omega), if_pos (by omega), if_neg hE]); rw [← er]; exact st_no (fun q => q.2 c_26) i_2 ho (by rw [er]; decide)]; exact ⟨rfl, hR⟩) dX6_setThing_64 (by decide) (by decide)
        · refine lv_iconst (v := 1) hx hb dX6_setThing_29 (by decide) ?_
          exact ew_i S9 hr hlk w (by rw [show sp_setThing S pl i th = (1, S) from by exact st_1 i_9 c_26]; exact ⟨rfl, hR⟩) dX6_setThing_30 (by decide) (by decide)
      · refine lv_istore (lv' := [(5, .int (nI h9)), (4, .int (nI h)), (0, .ref x), (1, .int pl), (2, .int i), (3, .int th)]) hx hb dX6_setThing_12 hl (by decide) rfl (fun ls hl => ?_)
        refine lv_iload hx hb dX6_setThing_14 (lv_at hl 1 rfl) ?_
        refine lv_if_lt (tgt := 29) hx hb dX6_setThing_16 (by decide) (fun c_16 => absurd c_16 (nI_pos (by have := hI.hd ho; omega))) (fun c_16 => ?_)
        refine lv_iload hx hb dX6_setThing_19 (lv_at hl 0 rfl) ?_
        refine lv_if_ge (tgt := 31) hx hb dX6_setThing_21 (by decide) (fun c_21 => ?_) (fun c_21 => absurd (nI_pos' (by have := hI.hd ho9; omega)) c_21)
        refine lv_aload_n hx hb dX6_setThing_31 rfl (lv_at hl 2 rfl) ?_
        refine lv_iload hx hb dX6_setThing_32 (lv_at hl 1 rfl) ?_
        refine k_vi S9 w (c_misThing l _ hR hI ho) m1 rfl (cwV 1 hts gX6_setThing_X6_isThing rfl rfl rfl (by decide +kernel) ⟨Nat.le_of_ble_eq_true rfl, Nat.le_of_ble_eq_true rfl⟩) rfl hl.1 rfl (Nat.le_of_ble_eq_true rfl) dX6_setThing_34 ⟨Nat.le_of_ble_eq_true rfl, Nat.le_of_ble_eq_true rfl⟩ (fun r13 er13 => ?_)
        rw [if_neg (by omega)] at er13
        subst er13
        refine lv_if_eq (tgt := 42) hx hb dX6_setThing_37 (by decide) (fun c_37 => ?_) (fun c_37 => absurd c_37 (by decide))
        refine lv_aload_n hx hb dX6_setThing_42 rfl (lv_at hl 2 rfl) ?_
        refine lv_iload hx hb dX6_setThing_43 (lv_at hl 1 rfl) ?_
        refine k_vi S9 w (c_misOfObjects l _ hR hI ho) m1 rfl (cwV 1 hts gX6_setThing_X6_isOfObjects rfl rfl rfl (by decide +kernel) ⟨Nat.le_of_ble_eq_true rfl, Nat.le_of_ble_eq_true rfl⟩) rfl hl.1 rfl (Nat.le_of_ble_eq_true rfl) dX6_setThing_45 ⟨Nat.le_of_ble_eq_true rfl, Nat.le_of_ble_eq_true rfl⟩ (fun r14 er14 => ?_)
        rw [if_pos (by omega)] at er14
        subst er14
        refine lv_if_ne (tgt := 53) hx hb dX6_setThing_48 (by decide) (fun c_48 => ?_) (fun c_48 => absurd c_48 (by decide))
        refine lv_aload_n hx hb dX6_setThing_53 rfl (lv_at hl 2 rfl) ?_
        refine lv_iload hx hb dX6_setThing_54 (lv_at hl 1 rfl) ?_
        refine lv_iload_n hx hb dX6_setThing_56 rfl (lv_at hl 4 rfl) ?_
        refine k_vi S9 w (c_misElement l _ hR hI ho (by omega) i) m1 rfl (cwV 2 hts gX6_setThing_X6_isElement rfl rfl rfl (by decide +kernel) ⟨Nat.le_of_ble_eq_true rfl, Nat.le_of_ble_eq_true rfl⟩) rfl hl.1 rfl (Nat.le_of_ble_eq_true rfl) dX6_setThing_57 ⟨Nat.le_of_ble_eq_true rfl, Nat.le_of_ble_eq_true rfl⟩ (fun r15 er15 => ?_)
        rcases Decidable.em (inE (o_n o) i) with hE | hE
        · rw [if_pos hE] at er15
          subst er15
          refine lv_if_ne (tgt := 65) hx hb dX6_setThing_60 (by decide) (fun c_60 => ?_) (fun c_60 => absurd c_60 (by decide))
          refine lv_aload_n hx hb dX6_setThing_65 rfl (lv_at hl 2 rfl) ?_
          refine lv_iload hx hb dX6_setThing_66 (lv_at hl 0 rfl) ?_
          refine lv_aload_n hx hb dX6_setThing_68 rfl (lv_at hl 2 rfl) ?_
          refine lv_iload hx hb dX6_setThing_69 (lv_at hl 1 rfl) ?_
          refine k_vi S9 w (c_mkind l _ hR hI ho) m1 rfl (cwV 1 hts gX6_setThing_X6_kind rfl rfl rfl (by decide +kernel) ⟨Nat.le_of_ble_eq_true rfl, Nat.le_of_ble_eq_true rfl⟩) rfl hl.1 rfl (Nat.le_of_ble_eq_true rfl) dX6_setThing_71 ⟨Nat.le_of_ble_eq_true rfl, Nat.le_of_ble_eq_true rfl⟩ (fun r16 er16 => ?_)
          subst er16
          refine k_vi S9 w (c_mfits_S l _ hR hI ho9 (o_k o) hk hm) m1 rfl (cwV 2 hts gX6_setThing_X6_fits rfl rfl rfl (by decide +kernel) ⟨Nat.le_of_ble_eq_true rfl, Nat.le_of_ble_eq_true rfl⟩) rfl hl.1 rfl (Nat.le_of_ble_eq_true rfl) dX6_setThing_74 ⟨Nat.le_of_ble_eq_true rfl, Nat.le_of_ble_eq_true rfl⟩ (fun v10 e10 => ?_)
          cases hfit : fitE S (o_k o) (some h9) with
          | false =>
            rw [hfit] at e10
            replace e10 : v10 = 0 := e10
            subst e10
            refine lv_if_ne (tgt := 82) hx hb dX6_setThing_77 (by decide) (fun c_77 => absurd c_77 (by decide)) (fun c_77 => ?_)
            refine lv_iconst (v := 5) hx hb dX6_setThing_80 (by decide) ?_
            exact ew_i S9 hr hlk w (by rw [show sp_setThing S pl i th = (5, S) from by have er : ref1 (some o) i 4 6 = 0 := (ref1_nat (o := o) (i := i) (a := 4) (b := 6) (by omega) (by decide) (by decide)).trans (by rw [if_neg (by omega), if_pos (by omega), if_pos hE]); exact st_bad (fun q => by rw [i_9] at q; exact absurd q.1 (by simp)) i_2 ho er (by rw [i_9]; exact hfit)]; exact ⟨rfl, hR⟩) dX6_setThing_81 (by decide) (by decide)
          | true =>
            rw [hfit] at e10
            replace e10 : v10 = 1 := e10
            subst e10
            refine lv_if_ne (tgt := 82) hx hb dX6_setThing_77 (by decide) (fun c_77 => ?_) (fun c_77 => absurd c_77 (by decide))
            refine lv_aload_n hx hb dX6_setThing_82 rfl (lv_at hl 2 rfl) ?_
            refine r_get (ref := "SpanMoverModel") S9 w m1 rfl (by decide +kernel) 0 (by decide) (by decide +kernel) (Or.inl rfl) rfl dX6_setThing_83 ?_
            refine lv_iload hx hb dX6_setThing_86 (lv_at hl 1 rfl) ?_
            refine lv_iconst (v := 1) hx hb dX6_setThing_88 (by decide) ?_
            refine lv_iadd hx hb dX6_setThing_89 ?_
            refine lv_topi (fun v17 ev17 => ?_)
            refine lv_iload_n hx hb dX6_setThing_90 rfl (lv_at hl 4 rfl) ?_
            refine lv_iadd hx hb dX6_setThing_91 ?_
            refine lv_topi (fun v18 ev18 => ?_)
            refine lv_iload hx hb dX6_setThing_92 (lv_at hl 0 rfl) ?_
            obtain ⟨v19, ev19⟩ : ∃ z : Int64, Int32.toInt64 (nI h9) = z := ⟨_, rfl⟩
            refine lv_i2l (v := v19) hx hb dX6_setThing_94 ev19 ?_
            refine lv_lconst (v := 1) hx hb dX6_setThing_95 (by decide) ?_
            refine lv_ladd hx hb dX6_setThing_96 ?_
            refine lv_topl (fun v20 ev20 => ?_)
            obtain ⟨i', hi', ei⟩ := vp_in_of (inE_in hE (by have := (hI.ob ho).2; omega)) (by have := (hI.ob ho).2; omega)
            have yi : i.toNatClampNeg = i' := cl_nI ei (by have := (hI.ob ho).2; omega)
            have bs := (hI.2.2.2.1 h o ho).2.2
            have bu := hI.1
            have xi : v18 = nI (h + 1 + i') := by rw [ev18, ev17, ei]; exact (congrArg (· + nI i') (nI_1 h)).trans (nI_add (h + 1) i')
            refine r_last S9 w m2 (by rw [xi]; exact vp_in_nI (by omega) (by decide)) dX6_setThing_97 (fun ws8 H8 lc8 u8 w8 => ?_)
            rw [cl_nI xi (by omega)] at u8
            have xv : v20 = lN (encO (some h9)) := by rw [ev20, ← ev19]; exact (by rw [nI_l (by have := hI.hd ho9; omega)]; exact lN_1 h9)
            rw [xv] at u8
            have hR8 := RpM.hpf (S2 := s_put S h (o_sete o (va_up (o_e o) i' (some h9)))) w.2.1 m1 m2 m3 m4 m5 u8 (HpM.els1 hI m6 ho hk hm hi' (r := some h9))
            refine lv_iconst (v := 0) hx hb dX6_setThing_98 (by decide) ?_
            exact ew_i S9 hr hlk w8 (by rw [show sp_setThing S pl i th = (0, s_put S h (o_sete o (va_up (o_e o) i' (some h9)))) from by have er : ref1 (some o) i 4 6 = 0 := (ref1_nat (o := o) (i := i) (a := 4) (b := 6) (by omega) (by decide) (by decide)).trans (by rw [if_neg (by omega), if_pos (by omega), if_pos hE]); rw [st_ok (fun q => by rw [i_9] at q; exact absurd q.1 (by simp)) i_2 ho er (by rw [i_9]; exact hfit), i_9, yi]]; exact ⟨rfl, hR8⟩) dX6_setThing_99 (by decide) (by decide)
        · rw [if_neg hE] at er15
          subst er15
          refine lv_if_ne (tgt := 65) hx hb dX6_setThing_60 (by decide) (fun c_60 => absurd c_60 (by decide)) (fun c_60 => ?_)
          refine lv_iconst (v := 4) hx hb dX6_setThing_63 (by decide) ?_
          exact ew_i S9 hr hlk w (by rw [show sp_setThing S pl i th = (4, S) from by have er : ref1 (some o) i 4 6 = 4 := (ref1_nat (o := o) (i := i) (a := 4) (b := 6) (by omega) (by decide) (by decide)).trans (by rw [if_neg (by omega), if_pos (by omega), if_neg hE]); rw [← er]; exact st_no (fun q => by rw [i_9] at q; exact absurd q.1 (by simp)) i_2 ho (by rw [er]; decide)]; exact ⟨rfl, hR⟩) dX6_setThing_64 (by decide) (by decide)
    · refine lv_istore (lv' := [(4, .int (nI h)), (0, .ref x), (1, .int pl), (2, .int i), (3, .int th)]) hx hb dX6_setThing_5 hl (by decide) rfl (fun ls hl => ?_)
      refine lv_aload_n hx hb dX6_setThing_7 rfl (lv_at hl 1 rfl) ?_
      refine lv_iload_n hx hb dX6_setThing_8 rfl (lv_at hl 4 rfl) ?_
      refine kx_in S9 w hR hI gX6_setThing_X6_in hl.1 (Nat.le_of_ble_eq_true rfl) dX6_setThing_9 ⟨Nat.le_of_ble_eq_true rfl, Nat.le_of_ble_eq_true rfl⟩ ⟨Nat.le_of_ble_eq_true rfl, Nat.le_of_ble_eq_true rfl⟩ (fun i_9 => ?_) (fun h9 o9 i_9 ho9 => ?_)
      · refine lv_istore (lv' := [(5, .int (-1)), (4, .int (nI h)), (0, .ref x), (1, .int pl), (2, .int i), (3, .int th)]) hx hb dX6_setThing_12 hl (by decide) rfl (fun ls hl => ?_)
        refine lv_iload hx hb dX6_setThing_14 (lv_at hl 1 rfl) ?_
        refine lv_if_lt (tgt := 29) hx hb dX6_setThing_16 (by decide) (fun c_16 => absurd c_16 (nI_pos (by have := hI.hd ho; omega))) (fun c_16 => ?_)
        refine lv_iload hx hb dX6_setThing_19 (lv_at hl 0 rfl) ?_
        refine lv_if_ge (tgt := 31) hx hb dX6_setThing_21 (by decide) (fun c_21 => absurd c_21 (by decide)) (fun c_21 => ?_)
        refine lv_iload_n hx hb dX6_setThing_24 rfl (lv_at hl 5 rfl) ?_
        refine lv_iconst (v := (-1)) hx hb dX6_setThing_25 (by decide) ?_
        refine lv_icmp_eq (tgt := 31) hx hb dX6_setThing_26 (by decide) (fun c_26 => ?_) (fun c_26 => ?_)
        · refine lv_aload_n hx hb dX6_setThing_31 rfl (lv_at hl 2 rfl) ?_
          refine lv_iload hx hb dX6_setThing_32 (lv_at hl 1 rfl) ?_
          refine k_vi S9 w (c_misThing l _ hR hI ho) m1 rfl (cwV 1 hts gX6_setThing_X6_isThing rfl rfl rfl (by decide +kernel) ⟨Nat.le_of_ble_eq_true rfl, Nat.le_of_ble_eq_true rfl⟩) rfl hl.1 rfl (Nat.le_of_ble_eq_true rfl) dX6_setThing_34 ⟨Nat.le_of_ble_eq_true rfl, Nat.le_of_ble_eq_true rfl⟩ (fun r21 er21 => ?_)
          rw [if_pos (by omega)] at er21
          subst er21
          refine lv_if_eq (tgt := 42) hx hb dX6_setThing_37 (by decide) (fun c_37 => absurd c_37 (by decide)) (fun c_37 => ?_)
          refine lv_iconst (v := 2) hx hb dX6_setThing_40 (by decide) ?_
          exact ew_i S9 hr hlk w (by rw [show sp_setThing S pl i th = (2, S) from by rw [← ref1_thg (i := i) (lo := 4) (hi := 6) hk]; exact st_no (fun q => q.2 c_26) i_2 ho (by rw [ref1_thg hk]; decide)]; exact ⟨rfl, hR⟩) dX6_setThing_41 (by decide) (by decide)
        · refine lv_iconst (v := 1) hx hb dX6_setThing_29 (by decide) ?_
          exact ew_i S9 hr hlk w (by rw [show sp_setThing S pl i th = (1, S) from by exact st_1 i_9 c_26]; exact ⟨rfl, hR⟩) dX6_setThing_30 (by decide) (by decide)
      · refine lv_istore (lv' := [(5, .int (nI h9)), (4, .int (nI h)), (0, .ref x), (1, .int pl), (2, .int i), (3, .int th)]) hx hb dX6_setThing_12 hl (by decide) rfl (fun ls hl => ?_)
        refine lv_iload hx hb dX6_setThing_14 (lv_at hl 1 rfl) ?_
        refine lv_if_lt (tgt := 29) hx hb dX6_setThing_16 (by decide) (fun c_16 => absurd c_16 (nI_pos (by have := hI.hd ho; omega))) (fun c_16 => ?_)
        refine lv_iload hx hb dX6_setThing_19 (lv_at hl 0 rfl) ?_
        refine lv_if_ge (tgt := 31) hx hb dX6_setThing_21 (by decide) (fun c_21 => ?_) (fun c_21 => absurd (nI_pos' (by have := hI.hd ho9; omega)) c_21)
        refine lv_aload_n hx hb dX6_setThing_31 rfl (lv_at hl 2 rfl) ?_
        refine lv_iload hx hb dX6_setThing_32 (lv_at hl 1 rfl) ?_
        refine k_vi S9 w (c_misThing l _ hR hI ho) m1 rfl (cwV 1 hts gX6_setThing_X6_isThing rfl rfl rfl (by decide +kernel) ⟨Nat.le_of_ble_eq_true rfl, Nat.le_of_ble_eq_true rfl⟩) rfl hl.1 rfl (Nat.le_of_ble_eq_true rfl) dX6_setThing_34 ⟨Nat.le_of_ble_eq_true rfl, Nat.le_of_ble_eq_true rfl⟩ (fun r22 er22 => ?_)
        rw [if_pos (by omega)] at er22
        subst er22
        refine lv_if_eq (tgt := 42) hx hb dX6_setThing_37 (by decide) (fun c_37 => absurd c_37 (by decide)) (fun c_37 => ?_)
        refine lv_iconst (v := 2) hx hb dX6_setThing_40 (by decide) ?_
        exact ew_i S9 hr hlk w (by rw [show sp_setThing S pl i th = (2, S) from by rw [← ref1_thg (i := i) (lo := 4) (hi := 6) hk]; exact st_no (fun q => by rw [i_9] at q; exact absurd q.1 (by simp)) i_2 ho (by rw [ref1_thg hk]; decide)]; exact ⟨rfl, hR⟩) dX6_setThing_41 (by decide) (by decide)

set_option maxHeartbeats 4000000 in
set_option maxRecDepth 100000 in
theorem c_mplan (l : Launch) {G : Gt} {ws : va_W} (sz : Nat) {x ha at_ li : Nat} {S : St} (hR : RpM G x ha at_ li S ws) (hI : Inv S) (a i b j n : Int32) : Met l yX6_plan wsX6_plan ({ frames := 0, cells := 0, slots := 0, locals := 0 } : Room) (Pw G [.ref x, .int a, .int i, .int b, .int j, .int n] ws sz) (va_Qi (fun (r : Int32) (u : va_W) => r = (sp_plan S a i b j n).1 ∧ RpM G x ha at_ li (sp_plan S a i b j n).2 u) (Bw G ws sz) (va_A ws sz)) 0 0 (va_A ws sz) := by
  refine Met_pw (cc := cX6_plan) (maxL := 6) (ret := (some .int)) (by decide) rfl (Nat.le_of_ble_eq_true rfl) ?_
  intro p e s m below meth c ls hsz S9 hr hlk hnm w hl
  subst hsz
  replace S9 : CallFix p m c cX6_plan 6 s _ wsX6_plan RX6 := S9
  have hx := S9.1
  have hb := S9.2.1
  have hown := S9.2.2.2.1
  have hts := S9.2.2.2.2
  replace hl : lv_has ls 6 [(0, .ref x), (1, .int a), (2, .int i), (3, .int b), (4, .int j), (5, .int n)] := hl
  obtain ⟨hf, af, m1, m2, m3, m4, m5, m6⟩ := id hR
  obtain ⟨k, hk, hk0⟩ := hI.2.2.1
  refine lv_aload_n hx hb dX6_plan_0 rfl (lv_at hl 0 rfl) ?_
  refine r_get (ref := "SpanMoverModel") S9 w m1 rfl (by decide +kernel) 4 (by decide) (by decide +kernel) (Or.inl rfl) rfl dX6_plan_1 ?_
  refine lv_bipush (v := 64) hx hb dX6_plan_4 (by decide) ?_
  refine lv_icmp_ne (tgt := 11) hx hb dX6_plan_6 (by decide) (fun c_6 => ?_) (fun c_6 => ?_)
  · refine lv_aload_n hx hb dX6_plan_11 rfl (lv_at hl 0 rfl) ?_
    refine r_get (ref := "SpanMoverModel") S9 w m1 rfl (by decide +kernel) 3 (by decide) (by decide +kernel) (Or.inl rfl) rfl dX6_plan_12 ?_
    refine lv_iconst (v := 5) hx hb dX6_plan_15 (by decide) ?_
    refine lv_aload_n hx hb dX6_plan_16 rfl (lv_at hl 0 rfl) ?_
    refine r_get (ref := "SpanMoverModel") S9 w m1 rfl (by decide +kernel) 4 (by decide) (by decide +kernel) (Or.inl rfl) rfl dX6_plan_17 ?_
    refine lv_imul hx hb dX6_plan_20 ?_
    refine lv_topi (fun v1 ev1 => ?_)
    refine lv_iload_n hx hb dX6_plan_21 rfl (lv_at hl 1 rfl) ?_
    have hk4 : k < 64 := by
      rw [hk0] at c_6
      have : ¬ k = 64 := fun q => c_6 (by rw [q]; rfl)
      omega
    have x0 : v1 = nI (5 * k) := by rw [ev1, hk0]; exact pk_mul 5 k
    refine r_iast S9 w m4 (by rw [x0]; exact vp_in_nI (by omega) (by decide)) dX6_plan_22 (fun wst0 Ht0 lct0 ut0 wt0 => ?_)
    rw [cl_nI x0 (by omega), show 5 * k = k * 5 by omega] at ut0
    have nnt0 := mne w.2.1 m1 m2 m3 m4
    have m1t0 := ut0.keep nnt0.1.2.2 m1
    have m2t0 := ut0.keep nnt0.2.2.1 m2
    have m3t0 := ut0.keep nnt0.2.2.2 m3
    have m4t0 : hp wst0 li (aI G 320 (upd (s_l S) (k * 5) a)) := ut0.1
    refine lv_aload_n hx hb dX6_plan_23 rfl (lv_at hl 0 rfl) ?_
    refine r_get (ref := "SpanMoverModel") S9 wt0 m1t0 rfl (by decide +kernel) 3 (by decide) (by decide +kernel) (Or.inl rfl) rfl dX6_plan_24 ?_
    refine lv_iconst (v := 5) hx hb dX6_plan_27 (by decide) ?_
    refine lv_aload_n hx hb dX6_plan_28 rfl (lv_at hl 0 rfl) ?_
    refine r_get (ref := "SpanMoverModel") S9 wt0 m1t0 rfl (by decide +kernel) 4 (by decide) (by decide +kernel) (Or.inl rfl) rfl dX6_plan_29 ?_
    refine lv_imul hx hb dX6_plan_32 ?_
    refine lv_topi (fun v2 ev2 => ?_)
    refine lv_iconst (v := 1) hx hb dX6_plan_33 (by decide) ?_
    refine lv_iadd hx hb dX6_plan_34 ?_
    refine lv_topi (fun v3 ev3 => ?_)
    refine lv_iload_n hx hb dX6_plan_35 rfl (lv_at hl 2 rfl) ?_
    have x1 : v3 = nI (5 * k + 1) := by rw [ev3, ev2, hk0]; exact (congrArg (· + 1) (pk_mul 5 k)).trans (nI_add (5 * k) 1)
    refine r_iast S9 wt0 m4t0 (by rw [x1]; exact vp_in_nI (by omega) (by decide)) dX6_plan_36 (fun wst1 Ht1 lct1 ut1 wt1 => ?_)
    rw [cl_nI x1 (by omega), show 5 * k + 1 = k * 5 + 1 by omega] at ut1
    have nnt1 := mne wt0.2.1 m1t0 m2t0 m3t0 m4t0
    have m1t1 := ut1.keep nnt1.1.2.2 m1t0
    have m2t1 := ut1.keep nnt1.2.2.1 m2t0
    have m3t1 := ut1.keep nnt1.2.2.2 m3t0
    have m4t1 : hp wst1 li (aI G 320 (upd (upd (s_l S) (k * 5) a) (k * 5 + 1) i)) := ut1.1
    refine lv_aload_n hx hb dX6_plan_37 rfl (lv_at hl 0 rfl) ?_
    refine r_get (ref := "SpanMoverModel") S9 wt1 m1t1 rfl (by decide +kernel) 3 (by decide) (by decide +kernel) (Or.inl rfl) rfl dX6_plan_38 ?_
    refine lv_iconst (v := 5) hx hb dX6_plan_41 (by decide) ?_
    refine lv_aload_n hx hb dX6_plan_42 rfl (lv_at hl 0 rfl) ?_
    refine r_get (ref := "SpanMoverModel") S9 wt1 m1t1 rfl (by decide +kernel) 4 (by decide) (by decide +kernel) (Or.inl rfl) rfl dX6_plan_43 ?_
    refine lv_imul hx hb dX6_plan_46 ?_
    refine lv_topi (fun v4 ev4 => ?_)
    refine lv_iconst (v := 2) hx hb dX6_plan_47 (by decide) ?_
    refine lv_iadd hx hb dX6_plan_48 ?_
    refine lv_topi (fun v5 ev5 => ?_)
    refine lv_iload_n hx hb dX6_plan_49 rfl (lv_at hl 3 rfl) ?_
    have x2 : v5 = nI (5 * k + 2) := by rw [ev5, ev4, hk0]; exact (congrArg (· + 2) (pk_mul 5 k)).trans (nI_add (5 * k) 2)
    refine r_iast S9 wt1 m4t1 (by rw [x2]; exact vp_in_nI (by omega) (by decide)) dX6_plan_50 (fun wst2 Ht2 lct2 ut2 wt2 => ?_)
    rw [cl_nI x2 (by omega), show 5 * k + 2 = k * 5 + 2 by omega] at ut2
    have nnt2 := mne wt1.2.1 m1t1 m2t1 m3t1 m4t1
    have m1t2 := ut2.keep nnt2.1.2.2 m1t1
    have m2t2 := ut2.keep nnt2.2.2.1 m2t1
    have m3t2 := ut2.keep nnt2.2.2.2 m3t1
    have m4t2 : hp wst2 li (aI G 320 (upd (upd (upd (s_l S) (k * 5) a) (k * 5 + 1) i) (k * 5 + 2) b)) := ut2.1
    refine lv_aload_n hx hb dX6_plan_51 rfl (lv_at hl 0 rfl) ?_
    refine r_get (ref := "SpanMoverModel") S9 wt2 m1t2 rfl (by decide +kernel) 3 (by decide) (by decide +kernel) (Or.inl rfl) rfl dX6_plan_52 ?_
    refine lv_iconst (v := 5) hx hb dX6_plan_55 (by decide) ?_
    refine lv_aload_n hx hb dX6_plan_56 rfl (lv_at hl 0 rfl) ?_
    refine r_get (ref := "SpanMoverModel") S9 wt2 m1t2 rfl (by decide +kernel) 4 (by decide) (by decide +kernel) (Or.inl rfl) rfl dX6_plan_57 ?_
    refine lv_imul hx hb dX6_plan_60 ?_
    refine lv_topi (fun v6 ev6 => ?_)
    refine lv_iconst (v := 3) hx hb dX6_plan_61 (by decide) ?_
    refine lv_iadd hx hb dX6_plan_62 ?_
    refine lv_topi (fun v7 ev7 => ?_)
    refine lv_iload hx hb dX6_plan_63 (lv_at hl 4 rfl) ?_
    have x3 : v7 = nI (5 * k + 3) := by rw [ev7, ev6, hk0]; exact (congrArg (· + 3) (pk_mul 5 k)).trans (nI_add (5 * k) 3)
    refine r_iast S9 wt2 m4t2 (by rw [x3]; exact vp_in_nI (by omega) (by decide)) dX6_plan_65 (fun wst3 Ht3 lct3 ut3 wt3 => ?_)
    rw [cl_nI x3 (by omega), show 5 * k + 3 = k * 5 + 3 by omega] at ut3
    have nnt3 := mne wt2.2.1 m1t2 m2t2 m3t2 m4t2
    have m1t3 := ut3.keep nnt3.1.2.2 m1t2
    have m2t3 := ut3.keep nnt3.2.2.1 m2t2
    have m3t3 := ut3.keep nnt3.2.2.2 m3t2
    have m4t3 : hp wst3 li (aI G 320 (upd (upd (upd (upd (s_l S) (k * 5) a) (k * 5 + 1) i) (k * 5 + 2) b) (k * 5 + 3) j)) := ut3.1
    refine lv_aload_n hx hb dX6_plan_66 rfl (lv_at hl 0 rfl) ?_
    refine r_get (ref := "SpanMoverModel") S9 wt3 m1t3 rfl (by decide +kernel) 3 (by decide) (by decide +kernel) (Or.inl rfl) rfl dX6_plan_67 ?_
    refine lv_iconst (v := 5) hx hb dX6_plan_70 (by decide) ?_
    refine lv_aload_n hx hb dX6_plan_71 rfl (lv_at hl 0 rfl) ?_
    refine r_get (ref := "SpanMoverModel") S9 wt3 m1t3 rfl (by decide +kernel) 4 (by decide) (by decide +kernel) (Or.inl rfl) rfl dX6_plan_72 ?_
    refine lv_imul hx hb dX6_plan_75 ?_
    refine lv_topi (fun v8 ev8 => ?_)
    refine lv_iconst (v := 4) hx hb dX6_plan_76 (by decide) ?_
    refine lv_iadd hx hb dX6_plan_77 ?_
    refine lv_topi (fun v9 ev9 => ?_)
    refine lv_iload hx hb dX6_plan_78 (lv_at hl 5 rfl) ?_
    have x4 : v9 = nI (5 * k + 4) := by rw [ev9, ev8, hk0]; exact (congrArg (· + 4) (pk_mul 5 k)).trans (nI_add (5 * k) 4)
    refine r_iast S9 wt3 m4t3 (by rw [x4]; exact vp_in_nI (by omega) (by decide)) dX6_plan_80 (fun wst4 Ht4 lct4 ut4 wt4 => ?_)
    rw [cl_nI x4 (by omega), show 5 * k + 4 = k * 5 + 4 by omega] at ut4
    have nnt4 := mne wt3.2.1 m1t3 m2t3 m3t3 m4t3
    have m1t4 := ut4.keep nnt4.1.2.2 m1t3
    have m2t4 := ut4.keep nnt4.2.2.1 m2t3
    have m3t4 := ut4.keep nnt4.2.2.2 m3t3
    have m4t4 : hp wst4 li (aI G 320 (upd (upd (upd (upd (upd (s_l S) (k * 5) a) (k * 5 + 1) i) (k * 5 + 2) b) (k * 5 + 3) j) (k * 5 + 4) n)) := ut4.1
    refine lv_aload_n hx hb dX6_plan_81 rfl (lv_at hl 0 rfl) ?_
    refine lv_dup hx hb dX6_plan_82 rfl ?_
    refine r_get (ref := "SpanMoverModel") S9 wt4 m1t4 rfl (by decide +kernel) 4 (by decide) (by decide +kernel) (Or.inl rfl) rfl dX6_plan_83 ?_
    refine lv_iconst (v := 1) hx hb dX6_plan_86 (by decide) ?_
    refine lv_iadd hx hb dX6_plan_87 ?_
    refine lv_topi (fun v10 ev10 => ?_)
    have hRp : RpM G x ha at_ li (s_u S, s_o S, s_s S, upd (upd (upd (upd (upd (s_l S) (k * 5) a) (k * 5 + 1) i) (k * 5 + 2) b) (k * 5 + 3) j) (k * 5 + 4) n, s_c S) wst4 := ⟨hf, af, m1t4, m2t4, m3t4, m4t4, m5, m6⟩
    refine r_put (ref := "SpanMoverModel") S9 wt4 m1t4 rfl (by decide +kernel) tyX6_ok nmX6 4 (by decide) (by decide +kernel) (Or.inl rfl) rfl rfl rfl (Nat.le_of_ble_eq_true rfl) dX6_plan_88 (fun wsa1 Ha1 lca1 ua1 wa1 => ?_)
    have hRa1 := RpM.sc (f := upd (s_c S) 0 v10) wt4.2.1 hRp m1t4 ua1 rfl
    replace hRa1 : RpM G x ha at_ li (s_u S, s_o S, s_s S, upd (upd (upd (upd (upd (s_l S) (k * 5) a) (k * 5 + 1) i) (k * 5 + 2) b) (k * 5 + 3) j) (k * 5 + 4) n, upd (s_c S) 0 v10) wsa1 := hRa1
    obtain ⟨hfa1, afa1, m1a1, m2a1, m3a1, m4a1, m5a1, m6a1⟩ := id hRa1
    have xa1 : hp wsa1 x (.inr (4, [.ref ha, .int (nI (s_u S)), .ref at_, .ref li, .int v10, .int (s_c S 2), .int (s_c S 4), .int (s_c S 3), .int (s_c S 5), .int (s_c S 6)])) := m1a1
    refine lv_aload_n hx hb dX6_plan_91 rfl (lv_at hl 0 rfl) ?_
    refine r_get (ref := "SpanMoverModel") S9 wa1 xa1 rfl (by decide +kernel) 4 (by decide) (by decide +kernel) (Or.inl rfl) rfl dX6_plan_92 ?_
    exact ew_i S9 hr hlk wa1 (by have hc : (s_c S 0).toNatClampNeg = k := cl_nI hk0 (by omega); have hle : ¬ (64 : Int32) ≤ s_c S 0 := (by rw [hk0]; exact fun q => absurd ((nI_leI (a := 64) (by decide) (by omega)).mp q) (by omega)); rw [show sp_plan S a i b j n = (v10, _) from by unfold sp_plan; rw [if_neg hle, hc, ev10]]; exact ⟨rfl, by rw [← ev10]; exact hRa1⟩) dX6_plan_95 (by decide) (by decide)
  · refine lv_iconst (v := (-1)) hx hb dX6_plan_9 (by decide) ?_
    exact ew_i S9 hr hlk w (by have hle : (64 : Int32) ≤ s_c S 0 := (by rw [c_6]; decide); rw [show sp_plan S a i b j n = (-1, S) from by unfold sp_plan; rw [if_pos hle]]; exact ⟨rfl, hR⟩) dX6_plan_10 (by decide) (by decide)
