theorem ref1_nat {o : Ob} {i : Int32} {a b : Nat} (hk : o_k o ≤ 6) (ha : a ≤ 8) (hb : b ≤ 8) : ref1 (some o) i (nI a) (nI b) = if o_k o < a then 3 else if o_k o ≤ b then (if inE (o_n o) i then 0 else 4) else 3 := by
  rw [ref1_row hk]
  by_cases h1 : o_k o < a
  · rw [if_pos h1, if_pos ((nI_ltI (by omega) (by omega)).mpr h1)]
  · rw [if_neg h1, if_neg (fun q => h1 ((nI_ltI (by omega) (by omega)).mp q))]
    by_cases h2 : o_k o ≤ b
    · rw [if_pos h2, if_pos ((nI_leI (by omega) (by omega)).mpr h2)]
    · rw [if_neg h2, if_neg (fun q => h2 ((nI_leI (by omega) (by omega)).mp q))]
theorem k64 {k : Nat} (hk : k ≤ 8) : (nI k).toInt64 + 1 = (nI k + 1).toInt64 := by
  rw [nI_1, nI_l (by omega), nI_l (by omega), lN_1]
theorem RpM.shf {G : Gt} {x ha at_ li : Nat} {S : St} {A : Nat → Prop} {ws ws' : va_W} {hf : Nat → Int64} {af af2 : Nat → Int32} {s2 : Nat → Option Nat} (hD : va_D A ws) (m1 : hp ws x (oM ha at_ li (nI (s_u S)) (s_c S))) (m2 : hp ws ha (aJ G 60000 hf)) (m3 : hp ws at_ (aI G 400 af)) (m4 : hp ws li (aI G 320 (s_l S))) (m6 : HpM S hf) (hW : hu ws at_ (aI G 400 af2) ws') (h5 : ∀ z, z < 400 → af2 z = nI (encO (s2 z))) : RpM G x ha at_ li (s_sh S s2) ws' := by
  obtain ⟨⟨n1, n2, n3⟩, n4, n5, n6⟩ := mne hD m1 m2 m3 m4
  exact ⟨hf, af2, hW.keep n2 m1, hW.keep n4 m2, hW.1, hW.keep n6.symm m4, h5, m6⟩
set_option maxHeartbeats 4000000 in
set_option maxRecDepth 100000 in
theorem c_mdeep (l : Launch) {G : Gt} {ws : va_W} (sz : Nat) {x ha at_ li : Nat} {S : St} (hR : RpM G x ha at_ li S ws) (hI : Inv S) (pl i k : Int32) : Met l yX6_deep wsX6_deep ({ frames := 2, cells := 0, slots := 0, locals := 43 } : Room) (Pw G [.ref x, .int pl, .int i, .int k] ws sz) (va_Ql (fun (r : Int64) (u : va_W) => r = (sp_deep S pl i k).1 ∧ RpM G x ha at_ li (sp_deep S pl i k).2 u) (Bw G ws sz) (va_A ws sz)) 0 0 (va_A ws sz) := by
  refine Met_pw (cc := cX6_deep) (maxL := 6) (ret := (some .long)) (by decide) rfl (Nat.le_of_ble_eq_true rfl) ?_
  intro p e s m below meth c ls hsz S9 hr hlk hnm w hl
  subst hsz
  replace S9 : CallFix p m c cX6_deep 6 s _ wsX6_deep RX6 := S9
  have hx := S9.1
  have hb := S9.2.1
  have hown := S9.2.2.2.1
  have hts := S9.2.2.2.2
  replace hl : lv_has ls 6 [(0, .ref x), (1, .int pl), (2, .int i), (3, .int k)] := hl
  obtain ⟨hf, af, m1, m2, m3, m4, m5, m6⟩ := id hR
  refine lv_aload_n hx hb dX6_deep_0 rfl (lv_at hl 0 rfl) ?_
  refine lv_iload_n hx hb dX6_deep_1 rfl (lv_at hl 1 rfl) ?_
  refine kx_in S9 w hR hI gX6_deep_X6_in hl.1 (Nat.le_of_ble_eq_true rfl) dX6_deep_2 ⟨Nat.le_of_ble_eq_true rfl, Nat.le_of_ble_eq_true rfl⟩ ⟨Nat.le_of_ble_eq_true rfl, Nat.le_of_ble_eq_true rfl⟩ (fun i_2 => ?_) (fun h o i_2 ho => ?_)
  · refine lv_istore (lv' := [(4, .int (-1)), (0, .ref x), (1, .int pl), (2, .int i), (3, .int k)]) hx hb dX6_deep_5 hl (by decide) rfl (fun ls hl => ?_)
    refine lv_aload_n hx hb dX6_deep_7 rfl (lv_at hl 1 rfl) ?_
    refine lv_iload hx hb dX6_deep_8 (lv_at hl 0 rfl) ?_
    refine lv_if_ge (tgt := 17) hx hb dX6_deep_10 (by decide) (fun c_10 => absurd c_10 (by decide)) (fun c_10 => ?_)
    refine lv_iconst (v := 1) hx hb dX6_deep_13 (by decide) ?_
    refine lv_goto (tgt := 59) hx hb dX6_deep_14 (by decide) ?_
    refine r_put (ref := "SpanMoverModel") S9 w m1 rfl (by decide +kernel) tyX6_ok nmX6 5 (by decide) (by decide +kernel) (Or.inl rfl) rfl rfl rfl (Nat.le_of_ble_eq_true rfl) dX6_deep_59 (fun wsa1 Ha1 lca1 ua1 wa1 => ?_)
    have hRa1 := RpM.sc (f := upd (s_c S) 2 1) w.2.1 hR m1 ua1 rfl
    replace hRa1 : RpM G x ha at_ li (s_u S, s_o S, s_s S, s_l S, upd (s_c S) 2 1) wsa1 := hRa1
    obtain ⟨hfa1, afa1, m1a1, m2a1, m3a1, m4a1, m5a1, m6a1⟩ := id hRa1
    have xa1 : hp wsa1 x (.inr (4, [.ref ha, .int (nI (s_u S)), .ref at_, .ref li, .int (s_c S 0), .int (1 : Int32), .int (s_c S 4), .int (s_c S 3), .int (s_c S 5), .int (s_c S 6)])) := m1a1
    refine lv_aload_n hx hb dX6_deep_62 rfl (lv_at hl 1 rfl) ?_
    refine r_get (ref := "SpanMoverModel") S9 wa1 xa1 rfl (by decide +kernel) 5 (by decide) (by decide +kernel) (Or.inl rfl) rfl dX6_deep_63 ?_
    refine lv_if_le (tgt := 71) hx hb dX6_deep_66 (by decide) (fun c_66 => absurd c_66 (by decide)) (fun c_66 => ?_)
    refine lv_lconst (v := 0) hx hb dX6_deep_69 (by decide) ?_
    exact ew_l S9 hr hlk wa1 (by rw [show sp_deep S pl i k = (0, s_sc S (upd (s_c S) 2 1)) from by simp [sp_deep, obj_none i_2]]; exact ⟨rfl, hRa1⟩) dX6_deep_70 (by decide) (by decide)
  · rcases (show o_k o ≤ 3 ∨ (4 ≤ o_k o ∧ o_k o ≤ 6) ∨ 7 ≤ o_k o by omega) with hk | ⟨hk, hm⟩ | hk
    · refine lv_istore (lv' := [(4, .int (nI h)), (0, .ref x), (1, .int pl), (2, .int i), (3, .int k)]) hx hb dX6_deep_5 hl (by decide) rfl (fun ls hl => ?_)
      refine lv_aload_n hx hb dX6_deep_7 rfl (lv_at hl 1 rfl) ?_
      refine lv_iload hx hb dX6_deep_8 (lv_at hl 0 rfl) ?_
      refine lv_if_ge (tgt := 17) hx hb dX6_deep_10 (by decide) (fun c_10 => ?_) (fun c_10 => absurd (nI_pos' (by have := hI.hd ho; omega)) c_10)
      refine lv_aload_n hx hb dX6_deep_17 rfl (lv_at hl 1 rfl) ?_
      refine lv_iload hx hb dX6_deep_18 (lv_at hl 0 rfl) ?_
      refine k_vi S9 w (c_misThing l _ hR hI ho) m1 rfl (cwV 1 hts gX6_deep_X6_isThing rfl rfl rfl (by decide +kernel) ⟨Nat.le_of_ble_eq_true rfl, Nat.le_of_ble_eq_true rfl⟩) rfl hl.1 rfl (Nat.le_of_ble_eq_true rfl) dX6_deep_20 ⟨Nat.le_of_ble_eq_true rfl, Nat.le_of_ble_eq_true rfl⟩ (fun r1 er1 => ?_)
      rw [if_neg (by omega)] at er1
      subst er1
      refine lv_if_eq (tgt := 30) hx hb dX6_deep_23 (by decide) (fun c_23 => ?_) (fun c_23 => absurd c_23 (by decide))
      refine lv_aload_n hx hb dX6_deep_30 rfl (lv_at hl 1 rfl) ?_
      refine lv_iload hx hb dX6_deep_31 (lv_at hl 0 rfl) ?_
      refine k_vi S9 w (c_mkind l _ hR hI ho) m1 rfl (cwV 1 hts gX6_deep_X6_kind rfl rfl rfl (by decide +kernel) ⟨Nat.le_of_ble_eq_true rfl, Nat.le_of_ble_eq_true rfl⟩) rfl hl.1 rfl (Nat.le_of_ble_eq_true rfl) dX6_deep_33 ⟨Nat.le_of_ble_eq_true rfl, Nat.le_of_ble_eq_true rfl⟩ (fun r2 er2 => ?_)
      subst er2
      refine lv_iconst (v := 4) hx hb dX6_deep_36 (by decide) ?_
      refine lv_icmp_eq (tgt := 44) hx hb dX6_deep_37 (by decide) (fun c_37 => absurd c_37 (by rw [nIe4 (hI.ob ho).1]; omega)) (fun c_37 => ?_)
      refine lv_iconst (v := 3) hx hb dX6_deep_40 (by decide) ?_
      refine lv_goto (tgt := 59) hx hb dX6_deep_41 (by decide) ?_
      refine r_put (ref := "SpanMoverModel") S9 w m1 rfl (by decide +kernel) tyX6_ok nmX6 5 (by decide) (by decide +kernel) (Or.inl rfl) rfl rfl rfl (Nat.le_of_ble_eq_true rfl) dX6_deep_59 (fun wsa1 Ha1 lca1 ua1 wa1 => ?_)
      have hRa1 := RpM.sc (f := upd (s_c S) 2 3) w.2.1 hR m1 ua1 rfl
      replace hRa1 : RpM G x ha at_ li (s_u S, s_o S, s_s S, s_l S, upd (s_c S) 2 3) wsa1 := hRa1
      obtain ⟨hfa1, afa1, m1a1, m2a1, m3a1, m4a1, m5a1, m6a1⟩ := id hRa1
      have xa1 : hp wsa1 x (.inr (4, [.ref ha, .int (nI (s_u S)), .ref at_, .ref li, .int (s_c S 0), .int (3 : Int32), .int (s_c S 4), .int (s_c S 3), .int (s_c S 5), .int (s_c S 6)])) := m1a1
      refine lv_aload_n hx hb dX6_deep_62 rfl (lv_at hl 1 rfl) ?_
      refine r_get (ref := "SpanMoverModel") S9 wa1 xa1 rfl (by decide +kernel) 5 (by decide) (by decide +kernel) (Or.inl rfl) rfl dX6_deep_63 ?_
      refine lv_if_le (tgt := 71) hx hb dX6_deep_66 (by decide) (fun c_66 => absurd c_66 (by decide)) (fun c_66 => ?_)
      refine lv_lconst (v := 0) hx hb dX6_deep_69 (by decide) ?_
      exact ew_l S9 hr hlk wa1 (by rw [show sp_deep S pl i k = (0, s_sc S (upd (s_c S) 2 3)) from by have er : ref1 (some o) i 4 4 = 3 := (ref1_nat (o := o) (i := i) (a := 4) (b := 4) (by omega) (by decide) (by decide)).trans (by rw [if_pos (by omega)]); simp [sp_deep, obj_some i_2 ho, er]]; exact ⟨rfl, hRa1⟩) dX6_deep_70 (by decide) (by decide)
    · refine lv_istore (lv' := [(4, .int (nI h)), (0, .ref x), (1, .int pl), (2, .int i), (3, .int k)]) hx hb dX6_deep_5 hl (by decide) rfl (fun ls hl => ?_)
      refine lv_aload_n hx hb dX6_deep_7 rfl (lv_at hl 1 rfl) ?_
      refine lv_iload hx hb dX6_deep_8 (lv_at hl 0 rfl) ?_
      refine lv_if_ge (tgt := 17) hx hb dX6_deep_10 (by decide) (fun c_10 => ?_) (fun c_10 => absurd (nI_pos' (by have := hI.hd ho; omega)) c_10)
      refine lv_aload_n hx hb dX6_deep_17 rfl (lv_at hl 1 rfl) ?_
      refine lv_iload hx hb dX6_deep_18 (lv_at hl 0 rfl) ?_
      refine k_vi S9 w (c_misThing l _ hR hI ho) m1 rfl (cwV 1 hts gX6_deep_X6_isThing rfl rfl rfl (by decide +kernel) ⟨Nat.le_of_ble_eq_true rfl, Nat.le_of_ble_eq_true rfl⟩) rfl hl.1 rfl (Nat.le_of_ble_eq_true rfl) dX6_deep_20 ⟨Nat.le_of_ble_eq_true rfl, Nat.le_of_ble_eq_true rfl⟩ (fun r3 er3 => ?_)
      rw [if_neg (by omega)] at er3
      subst er3
      refine lv_if_eq (tgt := 30) hx hb dX6_deep_23 (by decide) (fun c_23 => ?_) (fun c_23 => absurd c_23 (by decide))
      refine lv_aload_n hx hb dX6_deep_30 rfl (lv_at hl 1 rfl) ?_
      refine lv_iload hx hb dX6_deep_31 (lv_at hl 0 rfl) ?_
      refine k_vi S9 w (c_mkind l _ hR hI ho) m1 rfl (cwV 1 hts gX6_deep_X6_kind rfl rfl rfl (by decide +kernel) ⟨Nat.le_of_ble_eq_true rfl, Nat.le_of_ble_eq_true rfl⟩) rfl hl.1 rfl (Nat.le_of_ble_eq_true rfl) dX6_deep_33 ⟨Nat.le_of_ble_eq_true rfl, Nat.le_of_ble_eq_true rfl⟩ (fun r4 er4 => ?_)
      subst er4
      refine lv_iconst (v := 4) hx hb dX6_deep_36 (by decide) ?_
      refine lv_icmp_eq (tgt := 44) hx hb dX6_deep_37 (by decide) (fun c_37 => ?_) (fun c_37 => ?_)
      · rw [nIe4 (hI.ob ho).1] at c_37
        refine lv_aload_n hx hb dX6_deep_44 rfl (lv_at hl 1 rfl) ?_
        refine lv_iload hx hb dX6_deep_45 (lv_at hl 0 rfl) ?_
        refine lv_iload_n hx hb dX6_deep_47 rfl (lv_at hl 3 rfl) ?_
        refine k_vi S9 w (c_misElement l _ hR hI ho (by omega) i) m1 rfl (cwV 2 hts gX6_deep_X6_isElement rfl rfl rfl (by decide +kernel) ⟨Nat.le_of_ble_eq_true rfl, Nat.le_of_ble_eq_true rfl⟩) rfl hl.1 rfl (Nat.le_of_ble_eq_true rfl) dX6_deep_48 ⟨Nat.le_of_ble_eq_true rfl, Nat.le_of_ble_eq_true rfl⟩ (fun r5 er5 => ?_)
        rcases Decidable.em (inE (o_n o) i) with hE | hE
        · rw [if_pos hE] at er5
          subst er5
          refine lv_if_ne (tgt := 58) hx hb dX6_deep_51 (by decide) (fun c_51 => ?_) (fun c_51 => absurd c_51 (by decide))
          refine lv_iconst (v := 0) hx hb dX6_deep_58 (by decide) ?_
          refine r_put (ref := "SpanMoverModel") S9 w m1 rfl (by decide +kernel) tyX6_ok nmX6 5 (by decide) (by decide +kernel) (Or.inl rfl) rfl rfl rfl (Nat.le_of_ble_eq_true rfl) dX6_deep_59 (fun wsa1 Ha1 lca1 ua1 wa1 => ?_)
          have hRa1 := RpM.sc (f := upd (s_c S) 2 0) w.2.1 hR m1 ua1 rfl
          replace hRa1 : RpM G x ha at_ li (s_u S, s_o S, s_s S, s_l S, upd (s_c S) 2 0) wsa1 := hRa1
          obtain ⟨hfa1, afa1, m1a1, m2a1, m3a1, m4a1, m5a1, m6a1⟩ := id hRa1
          have xa1 : hp wsa1 x (.inr (4, [.ref ha, .int (nI (s_u S)), .ref at_, .ref li, .int (s_c S 0), .int (0 : Int32), .int (s_c S 4), .int (s_c S 3), .int (s_c S 5), .int (s_c S 6)])) := m1a1
          refine lv_aload_n hx hb dX6_deep_62 rfl (lv_at hl 1 rfl) ?_
          refine r_get (ref := "SpanMoverModel") S9 wa1 xa1 rfl (by decide +kernel) 5 (by decide) (by decide +kernel) (Or.inl rfl) rfl dX6_deep_63 ?_
          refine lv_if_le (tgt := 71) hx hb dX6_deep_66 (by decide) (fun c_66 => ?_) (fun c_66 => absurd c_66 (by decide))
          refine lv_aload_n hx hb dX6_deep_71 rfl (lv_at hl 1 rfl) ?_
          refine lv_iload hx hb dX6_deep_72 (lv_at hl 0 rfl) ?_
          refine lv_iload_n hx hb dX6_deep_74 rfl (lv_at hl 3 rfl) ?_
          obtain ⟨i', hi', ei⟩ := vp_in_of (inE_in hE (by have := (hI.ob ho).2; omega)) (by have := (hI.ob ho).2; omega)
          have yi : i.toNatClampNeg = i' := cl_nI ei (by have := (hI.ob ho).2; omega)
          refine k_vi S9 wa1 (c_mobject l _ hRa1 (Inv.sc hI (upd (s_c S) 2 0) rfl rfl) ho hk hm i i' ei hi') xa1 rfl (cwV 2 hts gX6_deep_X6_object rfl rfl rfl (by decide +kernel) ⟨Nat.le_of_ble_eq_true rfl, Nat.le_of_ble_eq_true rfl⟩) rfl hl.1 rfl (Nat.le_of_ble_eq_true rfl) dX6_deep_75 ⟨Nat.le_of_ble_eq_true rfl, Nat.le_of_ble_eq_true rfl⟩ (fun r6 er6 => ?_)
          cases he : o_e o i' with
          | none =>
            rw [he] at er6
            replace er6 : r6 = (-1) := er6
            subst er6
            refine lv_istore (lv' := [(5, .int (-1)), (4, .int (nI h)), (0, .ref x), (1, .int pl), (2, .int i), (3, .int k)]) hx hb dX6_deep_78 hl (by decide) rfl (fun ls hl => ?_)
            refine lv_aload_n hx hb dX6_deep_80 rfl (lv_at hl 2 rfl) ?_
            refine lv_iload hx hb dX6_deep_81 (lv_at hl 0 rfl) ?_
            refine lv_if_ge (tgt := 90) hx hb dX6_deep_83 (by decide) (fun c_83 => absurd c_83 (by decide)) (fun c_83 => ?_)
            refine lv_iconst (v := 5) hx hb dX6_deep_86 (by decide) ?_
            refine lv_goto (tgt := 106) hx hb dX6_deep_87 (by decide) ?_
            refine r_put (ref := "SpanMoverModel") S9 wa1 xa1 rfl (by decide +kernel) tyX6_ok nmX6 5 (by decide) (by decide +kernel) (Or.inl rfl) rfl rfl rfl (Nat.le_of_ble_eq_true rfl) dX6_deep_106 (fun wsa2 Ha2 lca2 ua2 wa2 => ?_)
            have hRa2 := RpM.sc (f := upd (upd (s_c S) 2 0) 2 5) wa1.2.1 hRa1 xa1 ua2 rfl
            replace hRa2 : RpM G x ha at_ li (s_u S, s_o S, s_s S, s_l S, upd (upd (s_c S) 2 0) 2 5) wsa2 := hRa2
            obtain ⟨hfa2, afa2, m1a2, m2a2, m3a2, m4a2, m5a2, m6a2⟩ := id hRa2
            have xa2 : hp wsa2 x (.inr (4, [.ref ha, .int (nI (s_u S)), .ref at_, .ref li, .int (s_c S 0), .int (5 : Int32), .int (s_c S 4), .int (s_c S 3), .int (s_c S 5), .int (s_c S 6)])) := m1a2
            refine lv_aload_n hx hb dX6_deep_109 rfl (lv_at hl 2 rfl) ?_
            refine r_get (ref := "SpanMoverModel") S9 wa2 xa2 rfl (by decide +kernel) 5 (by decide) (by decide +kernel) (Or.inl rfl) rfl dX6_deep_110 ?_
            refine lv_if_le (tgt := 120) hx hb dX6_deep_113 (by decide) (fun c_113 => absurd c_113 (by decide)) (fun c_113 => ?_)
            refine lv_lconst (v := 0) hx hb dX6_deep_116 (by decide) ?_
            refine lv_goto (tgt := 131) hx hb dX6_deep_117 (by decide) ?_
            exact ew_l S9 hr hlk wa2 (by rw [show sp_deep S pl i k = (0, s_sc S (upd (s_c S) 2 5)) from by have er : ref1 (some o) i 4 4 = 0 := (ref1_nat (o := o) (i := i) (a := 4) (b := 4) (by omega) (by decide) (by decide)).trans (by rw [if_neg (by omega), if_pos (by omega), if_pos hE]); have hO4 : obj S (o_e o i.toNatClampNeg) = none := (by rw [yi, he]; rfl); simp [sp_deep, obj_some i_2 ho, er, hO4]]; exact ⟨rfl, by have := hRa2; rw [upd_upd] at this; exact this⟩) dX6_deep_131 (by decide) (by decide)
          | some h4 =>
            rw [he] at er6
            replace er6 : r6 = nI h4 := er6
            subst er6
            obtain ⟨o4, ho4, hf4⟩ := hI.2.2.2.2.2.2 h o ho hk hm i' h4 he
            refine lv_istore (lv' := [(5, .int (nI h4)), (4, .int (nI h)), (0, .ref x), (1, .int pl), (2, .int i), (3, .int k)]) hx hb dX6_deep_78 hl (by decide) rfl (fun ls hl => ?_)
            refine lv_aload_n hx hb dX6_deep_80 rfl (lv_at hl 2 rfl) ?_
            refine lv_iload hx hb dX6_deep_81 (lv_at hl 0 rfl) ?_
            refine lv_if_ge (tgt := 90) hx hb dX6_deep_83 (by decide) (fun c_83 => ?_) (fun c_83 => absurd (nI_pos' (by have := hI.hd ho4; omega)) c_83)
            refine lv_aload_n hx hb dX6_deep_90 rfl (lv_at hl 2 rfl) ?_
            refine lv_iload hx hb dX6_deep_91 (lv_at hl 0 rfl) ?_
            refine lv_iload_n hx hb dX6_deep_93 rfl (lv_at hl 5 rfl) ?_
            refine k_vi S9 wa1 (c_misElement l _ hRa1 (Inv.sc hI (upd (s_c S) 2 0) rfl rfl) ho4 (by have : o_k o4 = 0 := (by simpa [fitK, c_37] using hf4); omega) k) xa1 rfl (cwV 2 hts gX6_deep_X6_isElement rfl rfl rfl (by decide +kernel) ⟨Nat.le_of_ble_eq_true rfl, Nat.le_of_ble_eq_true rfl⟩) rfl hl.1 rfl (Nat.le_of_ble_eq_true rfl) dX6_deep_94 ⟨Nat.le_of_ble_eq_true rfl, Nat.le_of_ble_eq_true rfl⟩ (fun r7 er7 => ?_)
            rcases Decidable.em (inE (o_n o4) k) with hE4 | hE4
            · rw [if_pos hE4] at er7
              subst er7
              refine lv_if_ne (tgt := 105) hx hb dX6_deep_97 (by decide) (fun c_97 => ?_) (fun c_97 => absurd c_97 (by decide))
              refine lv_iconst (v := 0) hx hb dX6_deep_105 (by decide) ?_
              refine r_put (ref := "SpanMoverModel") S9 wa1 xa1 rfl (by decide +kernel) tyX6_ok nmX6 5 (by decide) (by decide +kernel) (Or.inl rfl) rfl rfl rfl (Nat.le_of_ble_eq_true rfl) dX6_deep_106 (fun wsa2 Ha2 lca2 ua2 wa2 => ?_)
              have hRa2 := RpM.sc (f := upd (upd (s_c S) 2 0) 2 0) wa1.2.1 hRa1 xa1 ua2 rfl
              replace hRa2 : RpM G x ha at_ li (s_u S, s_o S, s_s S, s_l S, upd (upd (s_c S) 2 0) 2 0) wsa2 := hRa2
              obtain ⟨hfa2, afa2, m1a2, m2a2, m3a2, m4a2, m5a2, m6a2⟩ := id hRa2
              have xa2 : hp wsa2 x (.inr (4, [.ref ha, .int (nI (s_u S)), .ref at_, .ref li, .int (s_c S 0), .int (0 : Int32), .int (s_c S 4), .int (s_c S 3), .int (s_c S 5), .int (s_c S 6)])) := m1a2
              refine lv_aload_n hx hb dX6_deep_109 rfl (lv_at hl 2 rfl) ?_
              refine r_get (ref := "SpanMoverModel") S9 wa2 xa2 rfl (by decide +kernel) 5 (by decide) (by decide +kernel) (Or.inl rfl) rfl dX6_deep_110 ?_
              refine lv_if_le (tgt := 120) hx hb dX6_deep_113 (by decide) (fun c_113 => ?_) (fun c_113 => absurd c_113 (by decide))
              obtain ⟨k', hk', ek⟩ := vp_in_of (inE_in hE4 (by have := (hI.ob ho4).2; omega)) (by have := (hI.ob ho4).2; omega)
              have yk : k.toNatClampNeg = k' := cl_nI ek (by have := (hI.ob ho4).2; omega)
              have bs := (hI.2.2.2.1 h4 o4 ho4).2.2
              have bu := hI.1
              have k40 : o_k o4 = 0 := by simpa [fitK, c_37] using hf4
              refine lv_aload_n hx hb dX6_deep_120 rfl (lv_at hl 2 rfl) ?_
              refine r_get (ref := "SpanMoverModel") S9 wa2 xa2 rfl (by decide +kernel) 0 (by decide) (by decide +kernel) (Or.inl rfl) rfl dX6_deep_121 ?_
              refine lv_iload hx hb dX6_deep_124 (lv_at hl 0 rfl) ?_
              refine lv_iconst (v := 1) hx hb dX6_deep_126 (by decide) ?_
              refine lv_iadd hx hb dX6_deep_127 ?_
              refine lv_topi (fun v8 ev8 => ?_)
              refine lv_iload_n hx hb dX6_deep_128 rfl (lv_at hl 5 rfl) ?_
              refine lv_iadd hx hb dX6_deep_129 ?_
              refine lv_topi (fun v9 ev9 => ?_)
              refine r_lald S9 wa2 m2a2 (by rw [show v9 = nI (h4 + 1 + k') from by rw [ev9, ev8, ek]; exact (congrArg (· + nI k') (nI_1 h4)).trans (nI_add (h4 + 1) k')]; exact vp_in_nI (by omega) (by decide)) dX6_deep_130 ?_
              refine lv_topl (fun v10 ev10 => ?_)
              exact ew_l S9 hr hlk wa2 (by rw [show sp_deep S pl i k = (v10, s_sc S (upd (s_c S) 2 0)) from by have er : ref1 (some o) i 4 4 = 0 := (ref1_nat (o := o) (i := i) (a := 4) (b := 4) (by omega) (by decide) (by decide)).trans (by rw [if_neg (by omega), if_pos (by omega), if_pos hE]); have hO4 : obj S (o_e o i.toNatClampNeg) = some o4 := (by rw [yi, he]; exact ho4); have ev : v10 = o_f o4 k.toNatClampNeg := (by rw [ev10, cl_nI (show v9 = nI (h4 + 1 + k') from by rw [ev9, ev8, ek]; exact (congrArg (· + nI k') (nI_1 h4)).trans (nI_add (h4 + 1) k')) (by omega), (m6a2.1 h4 o4 ho4).2.1 (by omega) k' hk', yk]); rw [ev]; simp [sp_deep, obj_some i_2 ho, er, hO4, hE4]]; exact ⟨rfl, by have := hRa2; rw [upd_upd] at this; exact this⟩) dX6_deep_131 (by decide) (by decide)
            · rw [if_neg hE4] at er7
              subst er7
              refine lv_if_ne (tgt := 105) hx hb dX6_deep_97 (by decide) (fun c_97 => absurd c_97 (by decide)) (fun c_97 => ?_)
              refine lv_bipush (v := 6) hx hb dX6_deep_100 (by decide) ?_
              refine lv_goto (tgt := 106) hx hb dX6_deep_102 (by decide) ?_
              refine r_put (ref := "SpanMoverModel") S9 wa1 xa1 rfl (by decide +kernel) tyX6_ok nmX6 5 (by decide) (by decide +kernel) (Or.inl rfl) rfl rfl rfl (Nat.le_of_ble_eq_true rfl) dX6_deep_106 (fun wsa2 Ha2 lca2 ua2 wa2 => ?_)
              have hRa2 := RpM.sc (f := upd (upd (s_c S) 2 0) 2 6) wa1.2.1 hRa1 xa1 ua2 rfl
              replace hRa2 : RpM G x ha at_ li (s_u S, s_o S, s_s S, s_l S, upd (upd (s_c S) 2 0) 2 6) wsa2 := hRa2
              obtain ⟨hfa2, afa2, m1a2, m2a2, m3a2, m4a2, m5a2, m6a2⟩ := id hRa2
              have xa2 : hp wsa2 x (.inr (4, [.ref ha, .int (nI (s_u S)), .ref at_, .ref li, .int (s_c S 0), .int (6 : Int32), .int (s_c S 4), .int (s_c S 3), .int (s_c S 5), .int (s_c S 6)])) := m1a2
              refine lv_aload_n hx hb dX6_deep_109 rfl (lv_at hl 2 rfl) ?_
              refine r_get (ref := "SpanMoverModel") S9 wa2 xa2 rfl (by decide +kernel) 5 (by decide) (by decide +kernel) (Or.inl rfl) rfl dX6_deep_110 ?_
              refine lv_if_le (tgt := 120) hx hb dX6_deep_113 (by decide) (fun c_113 => absurd c_113 (by decide)) (fun c_113 => ?_)
              refine lv_lconst (v := 0) hx hb dX6_deep_116 (by decide) ?_
              refine lv_goto (tgt := 131) hx hb dX6_deep_117 (by decide) ?_
              exact ew_l S9 hr hlk wa2 (by rw [show sp_deep S pl i k = (0, s_sc S (upd (s_c S) 2 6)) from by have er : ref1 (some o) i 4 4 = 0 := (ref1_nat (o := o) (i := i) (a := 4) (b := 4) (by omega) (by decide) (by decide)).trans (by rw [if_neg (by omega), if_pos (by omega), if_pos hE]); have hO4 : obj S (o_e o i.toNatClampNeg) = some o4 := (by rw [yi, he]; exact ho4); simp [sp_deep, obj_some i_2 ho, er, hO4, hE4]]; exact ⟨rfl, by have := hRa2; rw [upd_upd] at this; exact this⟩) dX6_deep_131 (by decide) (by decide)
        · rw [if_neg hE] at er5
          subst er5
          refine lv_if_ne (tgt := 58) hx hb dX6_deep_51 (by decide) (fun c_51 => absurd c_51 (by decide)) (fun c_51 => ?_)
          refine lv_iconst (v := 4) hx hb dX6_deep_54 (by decide) ?_
          refine lv_goto (tgt := 59) hx hb dX6_deep_55 (by decide) ?_
          refine r_put (ref := "SpanMoverModel") S9 w m1 rfl (by decide +kernel) tyX6_ok nmX6 5 (by decide) (by decide +kernel) (Or.inl rfl) rfl rfl rfl (Nat.le_of_ble_eq_true rfl) dX6_deep_59 (fun wsa1 Ha1 lca1 ua1 wa1 => ?_)
          have hRa1 := RpM.sc (f := upd (s_c S) 2 4) w.2.1 hR m1 ua1 rfl
          replace hRa1 : RpM G x ha at_ li (s_u S, s_o S, s_s S, s_l S, upd (s_c S) 2 4) wsa1 := hRa1
          obtain ⟨hfa1, afa1, m1a1, m2a1, m3a1, m4a1, m5a1, m6a1⟩ := id hRa1
          have xa1 : hp wsa1 x (.inr (4, [.ref ha, .int (nI (s_u S)), .ref at_, .ref li, .int (s_c S 0), .int (4 : Int32), .int (s_c S 4), .int (s_c S 3), .int (s_c S 5), .int (s_c S 6)])) := m1a1
          refine lv_aload_n hx hb dX6_deep_62 rfl (lv_at hl 1 rfl) ?_
          refine r_get (ref := "SpanMoverModel") S9 wa1 xa1 rfl (by decide +kernel) 5 (by decide) (by decide +kernel) (Or.inl rfl) rfl dX6_deep_63 ?_
          refine lv_if_le (tgt := 71) hx hb dX6_deep_66 (by decide) (fun c_66 => absurd c_66 (by decide)) (fun c_66 => ?_)
          refine lv_lconst (v := 0) hx hb dX6_deep_69 (by decide) ?_
          exact ew_l S9 hr hlk wa1 (by rw [show sp_deep S pl i k = (0, s_sc S (upd (s_c S) 2 4)) from by have er : ref1 (some o) i 4 4 = 4 := (ref1_nat (o := o) (i := i) (a := 4) (b := 4) (by omega) (by decide) (by decide)).trans (by rw [if_neg (by omega), if_pos (by omega), if_neg hE]); simp [sp_deep, obj_some i_2 ho, er]]; exact ⟨rfl, hRa1⟩) dX6_deep_70 (by decide) (by decide)
      · rw [nIe4 (hI.ob ho).1] at c_37
        refine lv_iconst (v := 3) hx hb dX6_deep_40 (by decide) ?_
        refine lv_goto (tgt := 59) hx hb dX6_deep_41 (by decide) ?_
        refine r_put (ref := "SpanMoverModel") S9 w m1 rfl (by decide +kernel) tyX6_ok nmX6 5 (by decide) (by decide +kernel) (Or.inl rfl) rfl rfl rfl (Nat.le_of_ble_eq_true rfl) dX6_deep_59 (fun wsa1 Ha1 lca1 ua1 wa1 => ?_)
        have hRa1 := RpM.sc (f := upd (s_c S) 2 3) w.2.1 hR m1 ua1 rfl
        replace hRa1 : RpM G x ha at_ li (s_u S, s_o S, s_s S, s_l S, upd (s_c S) 2 3) wsa1 := hRa1
        obtain ⟨hfa1, afa1, m1a1, m2a1, m3a1, m4a1, m5a1, m6a1⟩ := id hRa1
        have xa1 : hp wsa1 x (.inr (4, [.ref ha, .int (nI (s_u S)), .ref at_, .ref li, .int (s_c S 0), .int (3 : Int32), .int (s_c S 4), .int (s_c S 3), .int (s_c S 5), .int (s_c S 6)])) := m1a1
        refine lv_aload_n hx hb dX6_deep_62 rfl (lv_at hl 1 rfl) ?_
        refine r_get (ref := "SpanMoverModel") S9 wa1 xa1 rfl (by decide +kernel) 5 (by decide) (by decide +kernel) (Or.inl rfl) rfl dX6_deep_63 ?_
        refine lv_if_le (tgt := 71) hx hb dX6_deep_66 (by decide) (fun c_66 => absurd c_66 (by decide)) (fun c_66 => ?_)
        refine lv_lconst (v := 0) hx hb dX6_deep_69 (by decide) ?_
        exact ew_l S9 hr hlk wa1 (by rw [show sp_deep S pl i k = (0, s_sc S (upd (s_c S) 2 3)) from by have er : ref1 (some o) i 4 4 = 3 := (ref1_nat (o := o) (i := i) (a := 4) (b := 4) (by omega) (by decide) (by decide)).trans (by rw [if_neg (by omega), if_neg (by omega)]); simp [sp_deep, obj_some i_2 ho, er]]; exact ⟨rfl, hRa1⟩) dX6_deep_70 (by decide) (by decide)
    · refine lv_istore (lv' := [(4, .int (nI h)), (0, .ref x), (1, .int pl), (2, .int i), (3, .int k)]) hx hb dX6_deep_5 hl (by decide) rfl (fun ls hl => ?_)
      refine lv_aload_n hx hb dX6_deep_7 rfl (lv_at hl 1 rfl) ?_
      refine lv_iload hx hb dX6_deep_8 (lv_at hl 0 rfl) ?_
      refine lv_if_ge (tgt := 17) hx hb dX6_deep_10 (by decide) (fun c_10 => ?_) (fun c_10 => absurd (nI_pos' (by have := hI.hd ho; omega)) c_10)
      refine lv_aload_n hx hb dX6_deep_17 rfl (lv_at hl 1 rfl) ?_
      refine lv_iload hx hb dX6_deep_18 (lv_at hl 0 rfl) ?_
      refine k_vi S9 w (c_misThing l _ hR hI ho) m1 rfl (cwV 1 hts gX6_deep_X6_isThing rfl rfl rfl (by decide +kernel) ⟨Nat.le_of_ble_eq_true rfl, Nat.le_of_ble_eq_true rfl⟩) rfl hl.1 rfl (Nat.le_of_ble_eq_true rfl) dX6_deep_20 ⟨Nat.le_of_ble_eq_true rfl, Nat.le_of_ble_eq_true rfl⟩ (fun r11 er11 => ?_)
      rw [if_pos (by omega)] at er11
      subst er11
      refine lv_if_eq (tgt := 30) hx hb dX6_deep_23 (by decide) (fun c_23 => absurd c_23 (by decide)) (fun c_23 => ?_)
      refine lv_iconst (v := 2) hx hb dX6_deep_26 (by decide) ?_
      refine lv_goto (tgt := 59) hx hb dX6_deep_27 (by decide) ?_
      refine r_put (ref := "SpanMoverModel") S9 w m1 rfl (by decide +kernel) tyX6_ok nmX6 5 (by decide) (by decide +kernel) (Or.inl rfl) rfl rfl rfl (Nat.le_of_ble_eq_true rfl) dX6_deep_59 (fun wsa1 Ha1 lca1 ua1 wa1 => ?_)
      have hRa1 := RpM.sc (f := upd (s_c S) 2 2) w.2.1 hR m1 ua1 rfl
      replace hRa1 : RpM G x ha at_ li (s_u S, s_o S, s_s S, s_l S, upd (s_c S) 2 2) wsa1 := hRa1
      obtain ⟨hfa1, afa1, m1a1, m2a1, m3a1, m4a1, m5a1, m6a1⟩ := id hRa1
      have xa1 : hp wsa1 x (.inr (4, [.ref ha, .int (nI (s_u S)), .ref at_, .ref li, .int (s_c S 0), .int (2 : Int32), .int (s_c S 4), .int (s_c S 3), .int (s_c S 5), .int (s_c S 6)])) := m1a1
      refine lv_aload_n hx hb dX6_deep_62 rfl (lv_at hl 1 rfl) ?_
      refine r_get (ref := "SpanMoverModel") S9 wa1 xa1 rfl (by decide +kernel) 5 (by decide) (by decide +kernel) (Or.inl rfl) rfl dX6_deep_63 ?_
      refine lv_if_le (tgt := 71) hx hb dX6_deep_66 (by decide) (fun c_66 => absurd c_66 (by decide)) (fun c_66 => ?_)
      refine lv_lconst (v := 0) hx hb dX6_deep_69 (by decide) ?_
      exact ew_l S9 hr hlk wa1 (by rw [show sp_deep S pl i k = (0, s_sc S (upd (s_c S) 2 2)) from by simp [sp_deep, obj_some i_2 ho, ref1_thg hk]]; exact ⟨rfl, hRa1⟩) dX6_deep_70 (by decide) (by decide)

set_option maxHeartbeats 4000000 in
set_option maxRecDepth 100000 in
theorem c_mlift (l : Launch) {G : Gt} {ws : va_W} (sz : Nat) {x ha at_ li : Nat} {S : St} (hR : RpM G x ha at_ li S ws) (hI : Inv S) (pl i : Int32) : Met l yX6_lift wsX6_lift ({ frames := 2, cells := 0, slots := 0, locals := 43 } : Room) (Pw G [.ref x, .int pl, .int i] ws sz) (va_Qi (fun (r : Int32) (u : va_W) => r = (sp_lift S pl i).1 ∧ RpM G x ha at_ li (sp_lift S pl i).2 u) (Bw G ws sz) (va_A ws sz)) 0 0 (va_A ws sz) := by
  refine Met_pw (cc := cX6_lift) (maxL := 6) (ret := (some .int)) (by decide) rfl (Nat.le_of_ble_eq_true rfl) ?_
  intro p e s m below meth c ls hsz S9 hr hlk hnm w hl
  subst hsz
  replace S9 : CallFix p m c cX6_lift 6 s _ wsX6_lift RX6 := S9
  have hx := S9.1
  have hb := S9.2.1
  have hown := S9.2.2.2.1
  have hts := S9.2.2.2.2
  replace hl : lv_has ls 6 [(0, .ref x), (1, .int pl), (2, .int i)] := hl
  obtain ⟨hf, af, m1, m2, m3, m4, m5, m6⟩ := id hR
  refine lv_aload_n hx hb dX6_lift_0 rfl (lv_at hl 0 rfl) ?_
  refine lv_iload_n hx hb dX6_lift_1 rfl (lv_at hl 1 rfl) ?_
  refine kx_in S9 w hR hI gX6_lift_X6_in hl.1 (Nat.le_of_ble_eq_true rfl) dX6_lift_2 ⟨Nat.le_of_ble_eq_true rfl, Nat.le_of_ble_eq_true rfl⟩ ⟨Nat.le_of_ble_eq_true rfl, Nat.le_of_ble_eq_true rfl⟩ (fun i_2 => ?_) (fun h o i_2 ho => ?_)
  · refine lv_istore_n (lv' := [(3, .int (-1)), (0, .ref x), (1, .int pl), (2, .int i)]) hx hb dX6_lift_5 rfl hl (by decide) rfl (fun ls hl => ?_)
    refine lv_iload_n hx hb dX6_lift_6 rfl (lv_at hl 0 rfl) ?_
    refine lv_if_ge (tgt := 12) hx hb dX6_lift_7 (by decide) (fun c_7 => absurd c_7 (by decide)) (fun c_7 => ?_)
    refine lv_iconst (v := (-1)) hx hb dX6_lift_10 (by decide) ?_
    exact ew_i S9 hr hlk w (by rw [show sp_lift S pl i = (-1, S) from by simp [sp_lift, obj_none i_2]]; exact ⟨rfl, hR⟩) dX6_lift_11 (by decide) (by decide)
  · rcases (show o_k o ≤ 3 ∨ (4 ≤ o_k o ∧ o_k o ≤ 6) ∨ 7 ≤ o_k o by omega) with hk | ⟨hk, hm⟩ | hk
    · refine lv_istore_n (lv' := [(3, .int (nI h)), (0, .ref x), (1, .int pl), (2, .int i)]) hx hb dX6_lift_5 rfl hl (by decide) rfl (fun ls hl => ?_)
      refine lv_iload_n hx hb dX6_lift_6 rfl (lv_at hl 0 rfl) ?_
      refine lv_if_ge (tgt := 12) hx hb dX6_lift_7 (by decide) (fun c_7 => ?_) (fun c_7 => absurd (nI_pos' (by have := hI.hd ho; omega)) c_7)
      refine lv_aload_n hx hb dX6_lift_12 rfl (lv_at hl 1 rfl) ?_
      refine lv_iload_n hx hb dX6_lift_13 rfl (lv_at hl 0 rfl) ?_
      refine k_vi S9 w (c_misThing l _ hR hI ho) m1 rfl (cwV 1 hts gX6_lift_X6_isThing rfl rfl rfl (by decide +kernel) ⟨Nat.le_of_ble_eq_true rfl, Nat.le_of_ble_eq_true rfl⟩) rfl hl.1 rfl (Nat.le_of_ble_eq_true rfl) dX6_lift_14 ⟨Nat.le_of_ble_eq_true rfl, Nat.le_of_ble_eq_true rfl⟩ (fun r1 er1 => ?_)
      rw [if_neg (by omega)] at er1
      subst er1
      refine lv_if_eq (tgt := 23) hx hb dX6_lift_17 (by decide) (fun c_17 => ?_) (fun c_17 => absurd c_17 (by decide))
      refine lv_aload_n hx hb dX6_lift_23 rfl (lv_at hl 1 rfl) ?_
      refine lv_iload_n hx hb dX6_lift_24 rfl (lv_at hl 0 rfl) ?_
      refine k_vi S9 w (c_misOfObjects l _ hR hI ho) m1 rfl (cwV 1 hts gX6_lift_X6_isOfObjects rfl rfl rfl (by decide +kernel) ⟨Nat.le_of_ble_eq_true rfl, Nat.le_of_ble_eq_true rfl⟩) rfl hl.1 rfl (Nat.le_of_ble_eq_true rfl) dX6_lift_25 ⟨Nat.le_of_ble_eq_true rfl, Nat.le_of_ble_eq_true rfl⟩ (fun r2 er2 => ?_)
      rw [if_neg (by omega)] at er2
      subst er2
      refine lv_if_ne (tgt := 34) hx hb dX6_lift_28 (by decide) (fun c_28 => absurd c_28 (by decide)) (fun c_28 => ?_)
      refine lv_bipush (v := (-3)) hx hb dX6_lift_31 (by decide) ?_
      exact ew_i S9 hr hlk w (by rw [show sp_lift S pl i = (-3, S) from by have er : ref1 (some o) i 4 6 = 3 := (ref1_nat (o := o) (i := i) (a := 4) (b := 6) (by omega) (by decide) (by decide)).trans (by rw [if_pos (by omega)]); simp [sp_lift, obj_some i_2 ho, er]]; exact ⟨rfl, hR⟩) dX6_lift_33 (by decide) (by decide)
    · refine lv_istore_n (lv' := [(3, .int (nI h)), (0, .ref x), (1, .int pl), (2, .int i)]) hx hb dX6_lift_5 rfl hl (by decide) rfl (fun ls hl => ?_)
      refine lv_iload_n hx hb dX6_lift_6 rfl (lv_at hl 0 rfl) ?_
      refine lv_if_ge (tgt := 12) hx hb dX6_lift_7 (by decide) (fun c_7 => ?_) (fun c_7 => absurd (nI_pos' (by have := hI.hd ho; omega)) c_7)
      refine lv_aload_n hx hb dX6_lift_12 rfl (lv_at hl 1 rfl) ?_
      refine lv_iload_n hx hb dX6_lift_13 rfl (lv_at hl 0 rfl) ?_
      refine k_vi S9 w (c_misThing l _ hR hI ho) m1 rfl (cwV 1 hts gX6_lift_X6_isThing rfl rfl rfl (by decide +kernel) ⟨Nat.le_of_ble_eq_true rfl, Nat.le_of_ble_eq_true rfl⟩) rfl hl.1 rfl (Nat.le_of_ble_eq_true rfl) dX6_lift_14 ⟨Nat.le_of_ble_eq_true rfl, Nat.le_of_ble_eq_true rfl⟩ (fun r3 er3 => ?_)
      rw [if_neg (by omega)] at er3
      subst er3
      refine lv_if_eq (tgt := 23) hx hb dX6_lift_17 (by decide) (fun c_17 => ?_) (fun c_17 => absurd c_17 (by decide))
      refine lv_aload_n hx hb dX6_lift_23 rfl (lv_at hl 1 rfl) ?_
      refine lv_iload_n hx hb dX6_lift_24 rfl (lv_at hl 0 rfl) ?_
      refine k_vi S9 w (c_misOfObjects l _ hR hI ho) m1 rfl (cwV 1 hts gX6_lift_X6_isOfObjects rfl rfl rfl (by decide +kernel) ⟨Nat.le_of_ble_eq_true rfl, Nat.le_of_ble_eq_true rfl⟩) rfl hl.1 rfl (Nat.le_of_ble_eq_true rfl) dX6_lift_25 ⟨Nat.le_of_ble_eq_true rfl, Nat.le_of_ble_eq_true rfl⟩ (fun r4 er4 => ?_)
      rw [if_pos (by omega)] at er4
      subst er4
      refine lv_if_ne (tgt := 34) hx hb dX6_lift_28 (by decide) (fun c_28 => ?_) (fun c_28 => absurd c_28 (by decide))
      refine lv_aload_n hx hb dX6_lift_34 rfl (lv_at hl 1 rfl) ?_
      refine lv_iload_n hx hb dX6_lift_35 rfl (lv_at hl 0 rfl) ?_
      refine lv_iload_n hx hb dX6_lift_36 rfl (lv_at hl 3 rfl) ?_
      refine k_vi S9 w (c_misElement l _ hR hI ho (by omega) i) m1 rfl (cwV 2 hts gX6_lift_X6_isElement rfl rfl rfl (by decide +kernel) ⟨Nat.le_of_ble_eq_true rfl, Nat.le_of_ble_eq_true rfl⟩) rfl hl.1 rfl (Nat.le_of_ble_eq_true rfl) dX6_lift_37 ⟨Nat.le_of_ble_eq_true rfl, Nat.le_of_ble_eq_true rfl⟩ (fun r5 er5 => ?_)
      rcases Decidable.em (inE (o_n o) i) with hE | hE
      · rw [if_pos hE] at er5
        subst er5
        refine lv_if_ne (tgt := 46) hx hb dX6_lift_40 (by decide) (fun c_40 => ?_) (fun c_40 => absurd c_40 (by decide))
        refine lv_aload_n hx hb dX6_lift_46 rfl (lv_at hl 1 rfl) ?_
        refine lv_iload_n hx hb dX6_lift_47 rfl (lv_at hl 0 rfl) ?_
        refine lv_iload_n hx hb dX6_lift_48 rfl (lv_at hl 3 rfl) ?_
        obtain ⟨i', hi', ei⟩ := vp_in_of (inE_in hE (by have := (hI.ob ho).2; omega)) (by have := (hI.ob ho).2; omega)
        have yi : i.toNatClampNeg = i' := cl_nI ei (by have := (hI.ob ho).2; omega)
        refine k_vi S9 w (c_mobject l _ hR hI ho hk hm i i' ei hi') m1 rfl (cwV 2 hts gX6_lift_X6_object rfl rfl rfl (by decide +kernel) ⟨Nat.le_of_ble_eq_true rfl, Nat.le_of_ble_eq_true rfl⟩) rfl hl.1 rfl (Nat.le_of_ble_eq_true rfl) dX6_lift_49 ⟨Nat.le_of_ble_eq_true rfl, Nat.le_of_ble_eq_true rfl⟩ (fun r6 er6 => ?_)
        cases he : o_e o i' with
        | none =>
          rw [he] at er6
          replace er6 : r6 = (-1) := er6
          subst er6
          refine lv_istore (lv' := [(4, .int (-1)), (3, .int (nI h)), (0, .ref x), (1, .int pl), (2, .int i)]) hx hb dX6_lift_52 hl (by decide) rfl (fun ls hl => ?_)
          refine lv_iload hx hb dX6_lift_54 (lv_at hl 0 rfl) ?_
          refine lv_if_ge (tgt := 62) hx hb dX6_lift_56 (by decide) (fun c_56 => absurd c_56 (by decide)) (fun c_56 => ?_)
          refine lv_bipush (v := (-5)) hx hb dX6_lift_59 (by decide) ?_
          exact ew_i S9 hr hlk w (by rw [show sp_lift S pl i = (-5, S) from by have er : ref1 (some o) i 4 6 = 0 := (ref1_nat (o := o) (i := i) (a := 4) (b := 6) (by omega) (by decide) (by decide)).trans (by rw [if_neg (by omega), if_pos (by omega), if_pos hE]); simp [sp_lift, obj_some i_2 ho, er, yi, he]]; exact ⟨rfl, hR⟩) dX6_lift_61 (by decide) (by decide)
        | some h4 =>
          rw [he] at er6
          replace er6 : r6 = nI h4 := er6
          subst er6
          obtain ⟨o4, ho4, hf4⟩ := hI.2.2.2.2.2.2 h o ho hk hm i' h4 he
          refine lv_istore (lv' := [(4, .int (nI h4)), (3, .int (nI h)), (0, .ref x), (1, .int pl), (2, .int i)]) hx hb dX6_lift_52 hl (by decide) rfl (fun ls hl => ?_)
          refine lv_iload hx hb dX6_lift_54 (lv_at hl 0 rfl) ?_
          refine lv_if_ge (tgt := 62) hx hb dX6_lift_56 (by decide) (fun c_56 => ?_) (fun c_56 => absurd (nI_pos' (by have := hI.hd ho4; omega)) c_56)
          refine lv_aload_n hx hb dX6_lift_62 rfl (lv_at hl 2 rfl) ?_
          refine k_vi S9 w (c_mlowestEmpty l _ hR hI) m1 rfl (cwV 0 hts gX6_lift_X6_lowestEmpty rfl rfl rfl (by decide +kernel) ⟨Nat.le_of_ble_eq_true rfl, Nat.le_of_ble_eq_true rfl⟩) rfl hl.1 rfl (Nat.le_of_ble_eq_true rfl) dX6_lift_63 ⟨Nat.le_of_ble_eq_true rfl, Nat.le_of_ble_eq_true rfl⟩ (fun r7 er7 => ?_)
          cases hq : lowE S with
          | none =>
            rw [hq] at er7
            replace er7 : r7 = (-1) := er7
            subst er7
            refine lv_istore (lv' := [(5, .int (-1)), (4, .int (nI h4)), (3, .int (nI h)), (0, .ref x), (1, .int pl), (2, .int i)]) hx hb dX6_lift_66 hl (by decide) rfl (fun ls hl => ?_)
            refine lv_iload hx hb dX6_lift_68 (lv_at hl 0 rfl) ?_
            refine lv_if_ge (tgt := 76) hx hb dX6_lift_70 (by decide) (fun c_70 => absurd c_70 (by decide)) (fun c_70 => ?_)
            refine lv_bipush (v := (-6)) hx hb dX6_lift_73 (by decide) ?_
            exact ew_i S9 hr hlk w (by rw [show sp_lift S pl i = (-6, S) from by have er : ref1 (some o) i 4 6 = 0 := (ref1_nat (o := o) (i := i) (a := 4) (b := 6) (by omega) (by decide) (by decide)).trans (by rw [if_neg (by omega), if_pos (by omega), if_pos hE]); simp [sp_lift, obj_some i_2 ho, er, yi, he, hq]]; exact ⟨rfl, hR⟩) dX6_lift_75 (by decide) (by decide)
          | some p4 =>
            rw [hq] at er7
            replace er7 : r7 = nI p4 := er7
            subst er7
            have hp5 := lowE_lt hq
            refine lv_istore (lv' := [(5, .int (nI p4)), (4, .int (nI h4)), (3, .int (nI h)), (0, .ref x), (1, .int pl), (2, .int i)]) hx hb dX6_lift_66 hl (by decide) rfl (fun ls hl => ?_)
            refine lv_iload hx hb dX6_lift_68 (lv_at hl 0 rfl) ?_
            refine lv_if_ge (tgt := 76) hx hb dX6_lift_70 (by decide) (fun c_70 => ?_) (fun c_70 => absurd (nI_pos' (by omega)) c_70)
            refine lv_aload_n hx hb dX6_lift_76 rfl (lv_at hl 3 rfl) ?_
            refine r_get (ref := "SpanMoverModel") S9 w m1 rfl (by decide +kernel) 2 (by decide) (by decide +kernel) (Or.inl rfl) rfl dX6_lift_77 ?_
            refine lv_iload hx hb dX6_lift_80 (lv_at hl 0 rfl) ?_
            refine lv_iload hx hb dX6_lift_82 (lv_at hl 1 rfl) ?_
            refine lv_iconst (v := 1) hx hb dX6_lift_84 (by decide) ?_
            refine lv_iadd hx hb dX6_lift_85 ?_
            refine lv_topi (fun v8 ev8 => ?_)
            refine r_iast S9 w m3 (vp_in_nI hp5.1 (by decide)) dX6_lift_86 (fun ws8 H8 lc8 u8 w8 => ?_)
            have hR8 := RpM.shf (s2 := va_up (s_s S) p4 (some h4)) w.2.1 m1 m2 m3 m4 m6 u8 (fun z hz => (Decidable.em (z = p4)).elim (fun hz4 => by subst hz4; rw [nI_clamp (by omega), pk_us, va_up_self]; rw [ev8]; exact nI_1 h4) (fun hz4 => by rw [nI_clamp (by omega), pk_un hz4, va_up_ne _ _ hz4]; exact m5 z hz))
            refine lv_iload hx hb dX6_lift_87 (lv_at hl 0 rfl) ?_
            exact ew_i S9 hr hlk w8 (by rw [show sp_lift S pl i = (nI p4, s_sh S (va_up (s_s S) p4 (some h4))) from by have er : ref1 (some o) i 4 6 = 0 := (ref1_nat (o := o) (i := i) (a := 4) (b := 6) (by omega) (by decide) (by decide)).trans (by rw [if_neg (by omega), if_pos (by omega), if_pos hE]); simp [sp_lift, obj_some i_2 ho, er, yi, he, hq]]; exact ⟨rfl, hR8⟩) dX6_lift_89 (by decide) (by decide)
      · rw [if_neg hE] at er5
        subst er5
        refine lv_if_ne (tgt := 46) hx hb dX6_lift_40 (by decide) (fun c_40 => absurd c_40 (by decide)) (fun c_40 => ?_)
        refine lv_bipush (v := (-4)) hx hb dX6_lift_43 (by decide) ?_
        exact ew_i S9 hr hlk w (by rw [show sp_lift S pl i = (-4, S) from by have er : ref1 (some o) i 4 6 = 4 := (ref1_nat (o := o) (i := i) (a := 4) (b := 6) (by omega) (by decide) (by decide)).trans (by rw [if_neg (by omega), if_pos (by omega), if_neg hE]); simp [sp_lift, obj_some i_2 ho, er]]; exact ⟨rfl, hR⟩) dX6_lift_45 (by decide) (by decide)
    · refine lv_istore_n (lv' := [(3, .int (nI h)), (0, .ref x), (1, .int pl), (2, .int i)]) hx hb dX6_lift_5 rfl hl (by decide) rfl (fun ls hl => ?_)
      refine lv_iload_n hx hb dX6_lift_6 rfl (lv_at hl 0 rfl) ?_
      refine lv_if_ge (tgt := 12) hx hb dX6_lift_7 (by decide) (fun c_7 => ?_) (fun c_7 => absurd (nI_pos' (by have := hI.hd ho; omega)) c_7)
      refine lv_aload_n hx hb dX6_lift_12 rfl (lv_at hl 1 rfl) ?_
      refine lv_iload_n hx hb dX6_lift_13 rfl (lv_at hl 0 rfl) ?_
      refine k_vi S9 w (c_misThing l _ hR hI ho) m1 rfl (cwV 1 hts gX6_lift_X6_isThing rfl rfl rfl (by decide +kernel) ⟨Nat.le_of_ble_eq_true rfl, Nat.le_of_ble_eq_true rfl⟩) rfl hl.1 rfl (Nat.le_of_ble_eq_true rfl) dX6_lift_14 ⟨Nat.le_of_ble_eq_true rfl, Nat.le_of_ble_eq_true rfl⟩ (fun r9 er9 => ?_)
      rw [if_pos (by omega)] at er9
      subst er9
      refine lv_if_eq (tgt := 23) hx hb dX6_lift_17 (by decide) (fun c_17 => absurd c_17 (by decide)) (fun c_17 => ?_)
      refine lv_bipush (v := (-2)) hx hb dX6_lift_20 (by decide) ?_
      exact ew_i S9 hr hlk w (by rw [show sp_lift S pl i = (-2, S) from by simp [sp_lift, obj_some i_2 ho, ref1_thg hk]]; exact ⟨rfl, hR⟩) dX6_lift_22 (by decide) (by decide)

set_option maxHeartbeats 4000000 in
set_option maxRecDepth 100000 in
theorem c_mclear (l : Launch) {G : Gt} {ws : va_W} (sz : Nat) {x ha at_ li : Nat} {S : St} (hR : RpM G x ha at_ li S ws) (hI : Inv S) (pl : Int32) : Met l yX6_clear wsX6_clear ({ frames := 2, cells := 0, slots := 0, locals := 41 } : Room) (Pw G [.ref x, .int pl] ws sz) (va_Qi (fun (r : Int32) (u : va_W) => r = (sp_clear S pl).1 ∧ RpM G x ha at_ li (sp_clear S pl).2 u) (Bw G ws sz) (va_A ws sz)) 0 0 (va_A ws sz) := by
  refine Met_pw (cc := cX6_clear) (maxL := 2) (ret := (some .int)) (by decide) rfl (Nat.le_of_ble_eq_true rfl) ?_
  intro p e s m below meth c ls hsz S9 hr hlk hnm w hl
  subst hsz
  replace S9 : CallFix p m c cX6_clear 2 s _ wsX6_clear RX6 := S9
  have hx := S9.1
  have hb := S9.2.1
  have hown := S9.2.2.2.1
  have hts := S9.2.2.2.2
  replace hl : lv_has ls 2 [(0, .ref x), (1, .int pl)] := hl
  obtain ⟨hf, af, m1, m2, m3, m4, m5, m6⟩ := id hR
  refine lv_aload_n hx hb dX6_clear_0 rfl (lv_at hl 0 rfl) ?_
  refine lv_iload_n hx hb dX6_clear_1 rfl (lv_at hl 1 rfl) ?_
  refine kx_in S9 w hR hI gX6_clear_X6_in hl.1 (Nat.le_of_ble_eq_true rfl) dX6_clear_2 ⟨Nat.le_of_ble_eq_true rfl, Nat.le_of_ble_eq_true rfl⟩ ⟨Nat.le_of_ble_eq_true rfl, Nat.le_of_ble_eq_true rfl⟩ (fun i_2 => ?_) (fun h o i_2 ho => ?_)
  · refine lv_if_ge (tgt := 10) hx hb dX6_clear_5 (by decide) (fun c_5 => absurd c_5 (by decide)) (fun c_5 => ?_)
    refine lv_iconst (v := 0) hx hb dX6_clear_8 (by decide) ?_
    exact ew_i S9 hr hlk w (by rw [show sp_clear S pl = (0, S) from by simp [sp_clear, i_2]]; exact ⟨rfl, hR⟩) dX6_clear_9 (by decide) (by decide)
  · refine lv_if_ge (tgt := 10) hx hb dX6_clear_5 (by decide) (fun c_5 => ?_) (fun c_5 => absurd (nI_pos' (by have := hI.hd ho; omega)) c_5)
    refine lv_aload_n hx hb dX6_clear_10 rfl (lv_at hl 0 rfl) ?_
    refine r_get (ref := "SpanMoverModel") S9 w m1 rfl (by decide +kernel) 2 (by decide) (by decide +kernel) (Or.inl rfl) rfl dX6_clear_11 ?_
    refine lv_iload_n hx hb dX6_clear_14 rfl (lv_at hl 1 rfl) ?_
    refine lv_iconst (v := 0) hx hb dX6_clear_15 (by decide) ?_
    have hin : ¬ pl < 0 ∧ ¬ (400 : Int32) ≤ pl := by
      unfold itm at i_2
      by_cases h0 : pl < 0
      · simp [h0] at i_2
      · by_cases h4 : (400 : Int32) ≤ pl
        · simp [h0, h4] at i_2
        · exact ⟨h0, h4⟩
    obtain ⟨j, hj, ej⟩ := vp_in_of (in_of (n := 400) hin.1 hin.2 (by decide)) (by decide)
    refine r_iast S9 w m3 (in_of hin.1 hin.2 (by decide)) dX6_clear_16 (fun ws8 H8 lc8 u8 w8 => ?_)
    have hR8 := RpM.shf (s2 := va_up (s_s S) pl.toNatClampNeg none) w.2.1 m1 m2 m3 m4 m6 u8 (fun z hz => (Decidable.em (z = pl.toNatClampNeg)).elim (fun hz4 => by subst hz4; rw [pk_us, va_up_self]; rfl) (fun hz4 => by rw [pk_un hz4, va_up_ne _ _ hz4]; exact m5 z hz))
    refine lv_iconst (v := 1) hx hb dX6_clear_17 (by decide) ?_
    exact ew_i S9 hr hlk w8 (by rw [show sp_clear S pl = (1, s_sh S (va_up (s_s S) pl.toNatClampNeg none)) from by simp [sp_clear, i_2]]; exact ⟨rfl, hR8⟩) dX6_clear_18 (by decide) (by decide)

set_option maxHeartbeats 4000000 in
set_option maxRecDepth 100000 in
theorem c_msummed (l : Launch) {G : Gt} {ws : va_W} (sz : Nat) {x ha at_ li : Nat} {S : St} (hR : RpM G x ha at_ li S ws) (hI : Inv S) {h : Nat} {o : Ob} (ho : s_o S h = some o) (hk : o_k o ≤ 3) : Met l yX6_summed wsX6_summed ({ frames := 1, cells := 0, slots := 0, locals := 21 } : Room) (Pw G [.ref x, .int (nI h)] ws sz) (vp_Sl (fun r : Int64 => r = dgN o)) 0 0 (fun _ => False) := by
  refine Met_pw (cc := cX6_summed) (maxL := 5) (ret := (some .long)) (by decide) rfl (Nat.le_of_ble_eq_true rfl) ?_
  intro p e s m below meth c ls hsz S9 hr hlk hnm w hl
  subst hsz
  replace S9 : CallFix p m c cX6_summed 5 s _ wsX6_summed RX6 := S9
  have hx := S9.1
  have hb := S9.2.1
  have hown := S9.2.2.2.1
  have hts := S9.2.2.2.2
  replace hl : lv_has ls 5 [(0, .ref x), (1, .int (nI h))] := hl
  obtain ⟨hf, af, m1, m2, m3, m4, m5, m6⟩ := id hR
  have bs := (hI.2.2.2.1 h o ho).2.2
  have bu := hI.1
  have bh := hI.hd ho
  refine lv_aload_n hx hb dX6_summed_0 rfl (lv_at hl 0 rfl) ?_
  refine lv_iload_n hx hb dX6_summed_1 rfl (lv_at hl 1 rfl) ?_
  refine k_vi S9 w (c_mkind l _ hR hI ho) m1 rfl (cwV 1 hts gX6_summed_X6_kind rfl rfl rfl (by decide +kernel) ⟨Nat.le_of_ble_eq_true rfl, Nat.le_of_ble_eq_true rfl⟩) rfl hl.1 rfl (Nat.le_of_ble_eq_true rfl) dX6_summed_2 ⟨Nat.le_of_ble_eq_true rfl, Nat.le_of_ble_eq_true rfl⟩ (fun r1 er1 => ?_)
  subst er1
  obtain ⟨v2, ev2⟩ : ∃ z : Int64, Int32.toInt64 (nI (o_k o)) = z := ⟨_, rfl⟩
  refine lv_i2l (v := v2) hx hb dX6_summed_5 ev2 ?_
  refine lv_lconst (v := 1) hx hb dX6_summed_6 (by decide) ?_
  refine lv_ladd hx hb dX6_summed_7 ?_
  refine lv_topl (fun v3 ev3 => ?_)
  refine lv_lstore_n (lv' := [(2, .long v3), (0, .ref x), (1, .int (nI h))]) hx hb dX6_summed_8 rfl hl (by decide) rfl (fun ls hl => ?_)
  refine lv_iconst (v := 0) hx hb dX6_summed_9 (by decide) ?_
  refine lv_istore (lv' := [(4, .int 0), (2, .long v3), (0, .ref x), (1, .int (nI h))]) hx hb dX6_summed_10 hl (by decide) rfl (fun ls hl => ?_)
  obtain ⟨i, hi, hv, hd⟩ : ∃ i : Nat, i ≤ o_n o ∧ (0 : Int32) = nI i ∧ v3 = dgF (o_k o) (o_f o) i := ⟨0, by omega, rfl, by rw [ev3, ← ev2]; exact k64 (hI.ob ho).1⟩
  obtain ⟨v, hv0⟩ : ∃ v : Int32, v = 0 := ⟨_, rfl⟩
  obtain ⟨d, hd0⟩ : ∃ d : Int64, d = v3 := ⟨_, rfl⟩
  replace hl : lv_has ls 5 [(4, .int v), (2, .long d), (0, .ref x), (1, .int (nI h))] := by rw [hv0, hd0]; exact hl
  rw [← hv0] at hv
  rw [← hd0] at hd
  clear hv0 hd0
  obtain ⟨t, ht⟩ : ∃ t, o_n o - i < t := ⟨_, Nat.lt_succ_self _⟩
  have hn : o_n o < 2 ^ 31 := by have := (hI.ob ho).2; omega
  induction t generalizing i v d ls with
  | zero => exact absurd ht (Nat.not_lt_zero _)
  | succ t ih =>
    refine lv_iload hx hb dX6_summed_12 (lv_at hl 0 rfl) ?_
    refine lv_aload_n hx hb dX6_summed_14 rfl (lv_at hl 2 rfl) ?_
    refine lv_iload_n hx hb dX6_summed_15 rfl (lv_at hl 3 rfl) ?_
    refine k_vi S9 w (c_mlow l _ hR hI ho) m1 rfl (cwV 1 hts gX6_summed_X6_low rfl rfl rfl (by decide +kernel) ⟨Nat.le_of_ble_eq_true rfl, Nat.le_of_ble_eq_true rfl⟩) rfl hl.1 rfl (Nat.le_of_ble_eq_true rfl) dX6_summed_16 ⟨Nat.le_of_ble_eq_true rfl, Nat.le_of_ble_eq_true rfl⟩ (fun r4 er4 => ?_)
    rw [loV_row (by omega)] at er4
    subst er4
    refine lv_icmp_ge (tgt := 46) hx hb dX6_summed_19 (by decide) (fun c_19 => ?_) (fun c_19 => ?_)
    · refine lv_lload_n hx hb dX6_summed_46 rfl (lv_at hl 1 rfl) ?_
      exact e_l S9 hr hlk (by have h4 := ge_nI hv hi hn c_19; subst h4; exact hd) dX6_summed_47
    · refine lv_ldc2 (v := 31) hx hb hown (hts (.constantLong RX6 121 (31)) (by decide +kernel)) dX6_summed_22 ?_
      refine lv_lload_n hx hb dX6_summed_25 rfl (lv_at hl 1 rfl) ?_
      refine lv_lmul hx hb dX6_summed_26 ?_
      refine lv_topl (fun v5 ev5 => ?_)
      refine lv_aload_n hx hb dX6_summed_27 rfl (lv_at hl 2 rfl) ?_
      refine r_get (ref := "SpanMoverModel") S9 w m1 rfl (by decide +kernel) 0 (by decide) (by decide +kernel) (Or.inl rfl) rfl dX6_summed_28 ?_
      refine lv_iload_n hx hb dX6_summed_31 rfl (lv_at hl 3 rfl) ?_
      refine lv_iconst (v := 1) hx hb dX6_summed_32 (by decide) ?_
      refine lv_iadd hx hb dX6_summed_33 ?_
      refine lv_topi (fun v6 ev6 => ?_)
      refine lv_iload hx hb dX6_summed_34 (lv_at hl 0 rfl) ?_
      refine lv_iadd hx hb dX6_summed_36 ?_
      refine lv_topi (fun v7 ev7 => ?_)
      refine r_lald S9 w m2 (by rw [show v7 = nI (h + 1 + i) from by rw [ev7, ev6, hv]; exact (congrArg (· + nI i) (nI_1 h)).trans (nI_add (h + 1) i)]; exact vp_in_nI (by have := nge_nI hv hi hn c_19; omega) (by decide)) dX6_summed_37 ?_
      refine lv_topl (fun v8 ev8 => ?_)
      refine lv_ladd hx hb dX6_summed_38 ?_
      refine lv_topl (fun v9 ev9 => ?_)
      refine lv_lstore_n (lv' := [(2, .long v9), (4, .int v), (0, .ref x), (1, .int (nI h))]) hx hb dX6_summed_39 rfl hl (by decide) rfl (fun ls hl => ?_)
      obtain ⟨v10, ev10⟩ : ∃ z : Int32, z = v + 1 := ⟨_, rfl⟩
      refine lv_iinc (v := v10) (lv' := [(4, .int v10), (2, .long v9), (0, .ref x), (1, .int (nI h))]) hx hb dX6_summed_40 hl (k := 1) rfl (by rw [ev10]; rfl) (by decide) rfl (fun ls hl => ?_)
      refine lv_goto (tgt := 12) hx hb dX6_summed_43 (by decide) ?_
      have hi4 := nge_nI hv hi hn c_19
      exact ih (ls := ls) (i := i + 1) (v := v10) (d := v9) (hi := by omega) (hv := by rw [ev10, hv]; exact nI_1 i) (hd := by rw [ev9, ev5, hd, ev8, cl_nI (show v7 = nI (h + 1 + i) from by rw [ev7, ev6, hv]; exact (congrArg (· + nI i) (nI_1 h)).trans (nI_add (h + 1) i)) (by omega), (m6.1 h o ho).2.1 hk i hi4]; rfl) (hl := lv_sub hl [0, 1, 2, 3] rfl) (ht := by omega)

set_option maxHeartbeats 4000000 in
set_option maxRecDepth 100000 in
theorem c_mshare_N (l : Launch) {G : Gt} {ws : va_W} (sz : Nat) {x : Nat} : Met l yX6_share wsX6_share ({ frames := 2, cells := 0, slots := 0, locals := 45 } : Room) (Pw G [.ref x, .int (-1)] ws sz) (vp_Sl (fun r : Int64 => r = 0)) 0 0 (fun _ => False) := by
  refine Met_pw (cc := cX6_share) (maxL := 2) (ret := (some .long)) (by decide) rfl (Nat.le_of_ble_eq_true rfl) ?_
  intro p e s m below meth c ls hsz S9 hr hlk hnm w hl
  subst hsz
  replace S9 : CallFix p m c cX6_share 2 s _ wsX6_share RX6 := S9
  have hx := S9.1
  have hb := S9.2.1
  have hown := S9.2.2.2.1
  have hts := S9.2.2.2.2
  replace hl : lv_has ls 2 [(0, .ref x), (1, .int (-1))] := hl
  refine lv_iload_n hx hb dX6_share_0 rfl (lv_at hl 1 rfl) ?_
  refine lv_if_ge (tgt := 6) hx hb dX6_share_1 (by decide) (fun c_1 => absurd c_1 (by decide)) (fun c_1 => ?_)
  refine lv_lconst (v := 0) hx hb dX6_share_4 (by decide) ?_
  exact e_l S9 hr hlk (rfl) dX6_share_5

set_option maxHeartbeats 4000000 in
set_option maxRecDepth 100000 in
theorem c_mshare_S (l : Launch) {G : Gt} {ws : va_W} (sz : Nat) {x ha at_ li : Nat} {S : St} (hR : RpM G x ha at_ li S ws) (hI : Inv S) {h : Nat} {o : Ob} (ho : s_o S h = some o) (hf7 : ¬ o_k o = 0 → 7 ≤ o_k o) : Met l yX6_share wsX6_share ({ frames := 2, cells := 0, slots := 0, locals := 45 } : Room) (Pw G [.ref x, .int (nI h)] ws sz) (vp_Sl (fun r : Int64 => r = dgE S (some h))) 0 0 (fun _ => False) := by
  refine Met_pw (cc := cX6_share) (maxL := 2) (ret := (some .long)) (by decide) rfl (Nat.le_of_ble_eq_true rfl) ?_
  intro p e s m below meth c ls hsz S9 hr hlk hnm w hl
  subst hsz
  replace S9 : CallFix p m c cX6_share 2 s _ wsX6_share RX6 := S9
  have hx := S9.1
  have hb := S9.2.1
  have hown := S9.2.2.2.1
  have hts := S9.2.2.2.2
  replace hl : lv_has ls 2 [(0, .ref x), (1, .int (nI h))] := hl
  obtain ⟨hf, af, m1, m2, m3, m4, m5, m6⟩ := id hR
  have bh := hI.hd ho
  refine lv_iload_n hx hb dX6_share_0 rfl (lv_at hl 1 rfl) ?_
  refine lv_if_ge (tgt := 6) hx hb dX6_share_1 (by decide) (fun c_1 => ?_) (fun c_1 => absurd (nI_pos' (by omega)) c_1)
  refine lv_aload_n hx hb dX6_share_6 rfl (lv_at hl 0 rfl) ?_
  refine lv_iload_n hx hb dX6_share_7 rfl (lv_at hl 1 rfl) ?_
  refine k_vi S9 w (c_mkind l _ hR hI ho) m1 rfl (cwV 1 hts gX6_share_X6_kind rfl rfl rfl (by decide +kernel) ⟨Nat.le_of_ble_eq_true rfl, Nat.le_of_ble_eq_true rfl⟩) rfl hl.1 rfl (Nat.le_of_ble_eq_true rfl) dX6_share_8 ⟨Nat.le_of_ble_eq_true rfl, Nat.le_of_ble_eq_true rfl⟩ (fun r1 er1 => ?_)
  subst er1
  refine lv_if_ne (tgt := 22) hx hb dX6_share_11 (by decide) (fun c_k => ?_) (fun c_k => ?_)
  · have k4 : 7 ≤ o_k o := hf7 (by rwa [nIe0 (hI.ob ho).1] at c_k)
    refine lv_aload_n hx hb dX6_share_22 rfl (lv_at hl 0 rfl) ?_
    refine r_get (ref := "SpanMoverModel") S9 w m1 rfl (by decide +kernel) 0 (by decide) (by decide +kernel) (Or.inl rfl) rfl dX6_share_23 ?_
    refine lv_iload_n hx hb dX6_share_26 rfl (lv_at hl 1 rfl) ?_
    refine r_lald S9 w m2 (vp_in_nI bh (by decide)) dX6_share_27 ?_
    refine lv_topl (fun v2 ev2 => ?_)
    exact e_l S9 hr hlk (by unfold dgE; rw [show obj S (some h) = some o from ho]; simp only []; rw [if_neg (by omega), ev2, nI_clamp (by omega), (m6.1 h o ho).1]; simp only [told]; rw [if_pos k4]; unfold hdO; rw [loV_thg k4]; exact hd_told (hI.ob ho).1 _) dX6_share_28
  · have k4 : o_k o = 0 := by rwa [nIe0 (hI.ob ho).1] at c_k
    refine lv_aload_n hx hb dX6_share_14 rfl (lv_at hl 0 rfl) ?_
    refine lv_iload_n hx hb dX6_share_15 rfl (lv_at hl 1 rfl) ?_
    refine k_vl S9 w (c_msummed l _ hR hI ho (by omega)) m1 rfl (cwV 1 hts gX6_share_X6_summed rfl rfl rfl (by decide +kernel) ⟨Nat.le_of_ble_eq_true rfl, Nat.le_of_ble_eq_true rfl⟩) rfl hl.1 rfl (Nat.le_of_ble_eq_true rfl) dX6_share_16 ⟨Nat.le_of_ble_eq_true rfl, Nat.le_of_ble_eq_true rfl⟩ (fun v12 e12 => ?_)
    refine lv_goto (tgt := 28) hx hb dX6_share_19 (by decide) ?_
    exact e_l S9 hr hlk (by unfold dgE; rw [show obj S (some h) = some o from ho]; simp only []; rw [if_pos (by omega)]; exact e12) dX6_share_28

set_option maxHeartbeats 4000000 in
set_option maxRecDepth 100000 in
theorem c_mdigest (l : Launch) {G : Gt} {ws : va_W} (sz : Nat) {x ha at_ li : Nat} {S : St} (hR : RpM G x ha at_ li S ws) (hI : Inv S) (pl : Int32) : Met l yX6_digest wsX6_digest ({ frames := 3, cells := 0, slots := 0, locals := 66 } : Room) (Pw G [.ref x, .int pl] ws sz) (vp_Sl (fun r : Int64 => r = sp_digest S pl)) 0 0 (fun _ => False) := by
  refine Met_pw (cc := cX6_digest) (maxL := 7) (ret := (some .long)) (by decide) rfl (Nat.le_of_ble_eq_true rfl) ?_
  intro p e s m below meth c ls hsz S9 hr hlk hnm w hl
  subst hsz
  replace S9 : CallFix p m c cX6_digest 7 s _ wsX6_digest RX6 := S9
  have hx := S9.1
  have hb := S9.2.1
  have hown := S9.2.2.2.1
  have hts := S9.2.2.2.2
  replace hl : lv_has ls 7 [(0, .ref x), (1, .int pl)] := hl
  obtain ⟨hf, af, hR1, -⟩ := id hR
  refine lv_aload_n hx hb dX6_digest_0 rfl (lv_at hl 0 rfl) ?_
  refine lv_iload_n hx hb dX6_digest_1 rfl (lv_at hl 1 rfl) ?_
  refine kx_in S9 w hR hI gX6_digest_X6_in hl.1 (Nat.le_of_ble_eq_true rfl) dX6_digest_2 ⟨Nat.le_of_ble_eq_true rfl, Nat.le_of_ble_eq_true rfl⟩ ⟨Nat.le_of_ble_eq_true rfl, Nat.le_of_ble_eq_true rfl⟩ (fun i_2 => ?_) (fun h o i_2 ho => ?_)
  · refine lv_istore_n (lv' := [(2, .int (-1)), (0, .ref x), (1, .int pl)]) hx hb dX6_digest_5 rfl hl (by decide) rfl (fun ls hl => ?_)
    refine lv_iload_n hx hb dX6_digest_6 rfl (lv_at hl 0 rfl) ?_
    refine lv_if_ge (tgt := 12) hx hb dX6_digest_7 (by decide) (fun c_7 => absurd c_7 (by decide)) (fun c_7 => ?_)
    refine lv_lconst (v := 0) hx hb dX6_digest_10 (by decide) ?_
    exact e_l S9 hr hlk (by simp [sp_digest, obj_none i_2]) dX6_digest_11
  · rcases (show o_k o ≤ 3 ∨ (4 ≤ o_k o ∧ o_k o ≤ 6) ∨ 7 ≤ o_k o by omega) with hk | ⟨hk, hm⟩ | hk
    · refine lv_istore_n (lv' := [(2, .int (nI h)), (0, .ref x), (1, .int pl)]) hx hb dX6_digest_5 rfl hl (by decide) rfl (fun ls hl => ?_)
      refine lv_iload_n hx hb dX6_digest_6 rfl (lv_at hl 0 rfl) ?_
      refine lv_if_ge (tgt := 12) hx hb dX6_digest_7 (by decide) (fun c_7 => ?_) (fun c_7 => absurd (nI_pos' (by have := hI.hd ho; omega)) c_7)
      refine lv_aload_n hx hb dX6_digest_12 rfl (lv_at hl 1 rfl) ?_
      refine lv_iload_n hx hb dX6_digest_13 rfl (lv_at hl 0 rfl) ?_
      refine k_vi S9 w (c_misThing l _ hR hI ho) hR1 rfl (cwV 1 hts gX6_digest_X6_isThing rfl rfl rfl (by decide +kernel) ⟨Nat.le_of_ble_eq_true rfl, Nat.le_of_ble_eq_true rfl⟩) rfl hl.1 rfl (Nat.le_of_ble_eq_true rfl) dX6_digest_14 ⟨Nat.le_of_ble_eq_true rfl, Nat.le_of_ble_eq_true rfl⟩ (fun r1 er1 => ?_)
      rw [if_neg (by omega)] at er1
      subst er1
      refine lv_if_eq (tgt := 40) hx hb dX6_digest_17 (by decide) (fun c_17 => ?_) (fun c_17 => absurd c_17 (by decide))
      refine lv_aload_n hx hb dX6_digest_40 rfl (lv_at hl 1 rfl) ?_
      refine lv_iload_n hx hb dX6_digest_41 rfl (lv_at hl 0 rfl) ?_
      refine k_vi S9 w (c_misOfObjects l _ hR hI ho) hR1 rfl (cwV 1 hts gX6_digest_X6_isOfObjects rfl rfl rfl (by decide +kernel) ⟨Nat.le_of_ble_eq_true rfl, Nat.le_of_ble_eq_true rfl⟩) rfl hl.1 rfl (Nat.le_of_ble_eq_true rfl) dX6_digest_42 ⟨Nat.le_of_ble_eq_true rfl, Nat.le_of_ble_eq_true rfl⟩ (fun r2 er2 => ?_)
      rw [if_neg (by omega)] at er2
      subst er2
      refine lv_if_ne (tgt := 54) hx hb dX6_digest_45 (by decide) (fun c_45 => absurd c_45 (by decide)) (fun c_45 => ?_)
      refine lv_aload_n hx hb dX6_digest_48 rfl (lv_at hl 1 rfl) ?_
      refine lv_iload_n hx hb dX6_digest_49 rfl (lv_at hl 0 rfl) ?_
      refine k_vl S9 w (c_msummed l _ hR hI ho (by omega)) hR1 rfl (cwV 1 hts gX6_digest_X6_summed rfl rfl rfl (by decide +kernel) ⟨Nat.le_of_ble_eq_true rfl, Nat.le_of_ble_eq_true rfl⟩) rfl hl.1 rfl (Nat.le_of_ble_eq_true rfl) dX6_digest_50 ⟨Nat.le_of_ble_eq_true rfl, Nat.le_of_ble_eq_true rfl⟩ (fun v12 e12 => ?_)
      exact e_l S9 hr hlk (by simp only [sp_digest, obj_some i_2 ho, hk, if_true]; exact e12) dX6_digest_53
    · refine lv_istore_n (lv' := [(2, .int (nI h)), (0, .ref x), (1, .int pl)]) hx hb dX6_digest_5 rfl hl (by decide) rfl (fun ls hl => ?_)
      refine lv_iload_n hx hb dX6_digest_6 rfl (lv_at hl 0 rfl) ?_
      refine lv_if_ge (tgt := 12) hx hb dX6_digest_7 (by decide) (fun c_7 => ?_) (fun c_7 => absurd (nI_pos' (by have := hI.hd ho; omega)) c_7)
      refine lv_aload_n hx hb dX6_digest_12 rfl (lv_at hl 1 rfl) ?_
      refine lv_iload_n hx hb dX6_digest_13 rfl (lv_at hl 0 rfl) ?_
      refine k_vi S9 w (c_misThing l _ hR hI ho) hR1 rfl (cwV 1 hts gX6_digest_X6_isThing rfl rfl rfl (by decide +kernel) ⟨Nat.le_of_ble_eq_true rfl, Nat.le_of_ble_eq_true rfl⟩) rfl hl.1 rfl (Nat.le_of_ble_eq_true rfl) dX6_digest_14 ⟨Nat.le_of_ble_eq_true rfl, Nat.le_of_ble_eq_true rfl⟩ (fun r3 er3 => ?_)
      rw [if_neg (by omega)] at er3
      subst er3
      refine lv_if_eq (tgt := 40) hx hb dX6_digest_17 (by decide) (fun c_17 => ?_) (fun c_17 => absurd c_17 (by decide))
      refine lv_aload_n hx hb dX6_digest_40 rfl (lv_at hl 1 rfl) ?_
      refine lv_iload_n hx hb dX6_digest_41 rfl (lv_at hl 0 rfl) ?_
      refine k_vi S9 w (c_misOfObjects l _ hR hI ho) hR1 rfl (cwV 1 hts gX6_digest_X6_isOfObjects rfl rfl rfl (by decide +kernel) ⟨Nat.le_of_ble_eq_true rfl, Nat.le_of_ble_eq_true rfl⟩) rfl hl.1 rfl (Nat.le_of_ble_eq_true rfl) dX6_digest_42 ⟨Nat.le_of_ble_eq_true rfl, Nat.le_of_ble_eq_true rfl⟩ (fun r4 er4 => ?_)
      rw [if_pos (by omega)] at er4
      subst er4
      refine lv_if_ne (tgt := 54) hx hb dX6_digest_45 (by decide) (fun c_45 => ?_) (fun c_45 => absurd c_45 (by decide))
      refine lv_aload_n hx hb dX6_digest_54 rfl (lv_at hl 1 rfl) ?_
      refine lv_iload_n hx hb dX6_digest_55 rfl (lv_at hl 0 rfl) ?_
      refine k_vi S9 w (c_mkind l _ hR hI ho) hR1 rfl (cwV 1 hts gX6_digest_X6_kind rfl rfl rfl (by decide +kernel) ⟨Nat.le_of_ble_eq_true rfl, Nat.le_of_ble_eq_true rfl⟩) rfl hl.1 rfl (Nat.le_of_ble_eq_true rfl) dX6_digest_56 ⟨Nat.le_of_ble_eq_true rfl, Nat.le_of_ble_eq_true rfl⟩ (fun r5 er5 => ?_)
      subst er5
      obtain ⟨v6, ev6⟩ : ∃ z : Int64, Int32.toInt64 (nI (o_k o)) = z := ⟨_, rfl⟩
      refine lv_i2l (v := v6) hx hb dX6_digest_59 ev6 ?_
      refine lv_lconst (v := 1) hx hb dX6_digest_60 (by decide) ?_
      refine lv_ladd hx hb dX6_digest_61 ?_
      refine lv_topl (fun v7 ev7 => ?_)
      refine lv_lstore_n (lv' := [(3, .long v7), (2, .int (nI h)), (0, .ref x), (1, .int pl)]) hx hb dX6_digest_62 rfl hl (by decide) rfl (fun ls hl => ?_)
      refine lv_iconst (v := 0) hx hb dX6_digest_63 (by decide) ?_
      refine lv_istore (lv' := [(5, .int 0), (3, .long v7), (2, .int (nI h)), (0, .ref x), (1, .int pl)]) hx hb dX6_digest_64 hl (by decide) rfl (fun ls hl => ?_)
      obtain ⟨i, hi, hv, hd⟩ : ∃ i : Nat, i ≤ o_n o ∧ (0 : Int32) = nI i ∧ v7 = dgO S (o_k o) (o_e o) i := ⟨0, by omega, rfl, by rw [ev7, ← ev6]; exact k64 (hI.ob ho).1⟩
      obtain ⟨v, hv0⟩ : ∃ v : Int32, v = 0 := ⟨_, rfl⟩
      obtain ⟨d, hd0⟩ : ∃ d : Int64, d = v7 := ⟨_, rfl⟩
      replace hl : lv_has ls 7 [(5, .int v), (3, .long d), (2, .int (nI h)), (0, .ref x), (1, .int pl)] := by rw [hv0, hd0]; exact hl
      rw [← hv0] at hv
      rw [← hd0] at hd
      clear hv0 hd0
      obtain ⟨t, ht⟩ : ∃ t, o_n o - i < t := ⟨_, Nat.lt_succ_self _⟩
      have hn : o_n o < 2 ^ 31 := by have := (hI.ob ho).2; omega
      induction t generalizing i v d ls with
      | zero => exact absurd ht (Nat.not_lt_zero _)
      | succ t ih =>
        refine lv_iload hx hb dX6_digest_66 (lv_at hl 0 rfl) ?_
        refine lv_aload_n hx hb dX6_digest_68 rfl (lv_at hl 3 rfl) ?_
        refine lv_iload_n hx hb dX6_digest_69 rfl (lv_at hl 2 rfl) ?_
        refine k_vi S9 w (c_mlow l _ hR hI ho) hR1 rfl (cwV 1 hts gX6_digest_X6_low rfl rfl rfl (by decide +kernel) ⟨Nat.le_of_ble_eq_true rfl, Nat.le_of_ble_eq_true rfl⟩) rfl hl.1 rfl (Nat.le_of_ble_eq_true rfl) dX6_digest_70 ⟨Nat.le_of_ble_eq_true rfl, Nat.le_of_ble_eq_true rfl⟩ (fun r8 er8 => ?_)
        rw [loV_row (by omega)] at er8
        subst er8
        refine lv_icmp_ge (tgt := 104) hx hb dX6_digest_73 (by decide) (fun c_73 => ?_) (fun c_73 => ?_)
        · refine lv_lload_n hx hb dX6_digest_104 rfl (lv_at hl 1 rfl) ?_
          exact e_l S9 hr hlk (by simp only [sp_digest, obj_some i_2 ho, show ¬ o_k o ≤ 3 by omega, hm, if_true, if_false]; have h4 := ge_nI hv hi hn c_73; subst h4; exact hd) dX6_digest_105
        · refine lv_aload_n hx hb dX6_digest_76 rfl (lv_at hl 3 rfl) ?_
          refine lv_iload_n hx hb dX6_digest_77 rfl (lv_at hl 2 rfl) ?_
          refine lv_iload hx hb dX6_digest_78 (lv_at hl 0 rfl) ?_
          have hi4 := nge_nI hv hi hn c_73
          refine k_vi S9 w (c_mobject l _ hR hI ho hk hm v i hv hi4) hR1 rfl (cwV 2 hts gX6_digest_X6_object rfl rfl rfl (by decide +kernel) ⟨Nat.le_of_ble_eq_true rfl, Nat.le_of_ble_eq_true rfl⟩) rfl hl.1 rfl (Nat.le_of_ble_eq_true rfl) dX6_digest_80 ⟨Nat.le_of_ble_eq_true rfl, Nat.le_of_ble_eq_true rfl⟩ (fun r9 er9 => ?_)
          cases he : o_e o i with
          | none =>
            rw [he] at er9
            replace er9 : r9 = (-1) := er9
            subst er9
            refine lv_istore (lv' := [(6, .int (-1)), (5, .int v), (3, .long d), (2, .int (nI h)), (0, .ref x), (1, .int pl)]) hx hb dX6_digest_83 hl (by decide) rfl (fun ls hl => ?_)
            refine lv_ldc2 (v := 31) hx hb hown (hts (.constantLong RX6 121 (31)) (by decide +kernel)) dX6_digest_85 ?_
            refine lv_lload_n hx hb dX6_digest_88 rfl (lv_at hl 2 rfl) ?_
            refine lv_lmul hx hb dX6_digest_89 ?_
            refine lv_topl (fun v10 ev10 => ?_)
            refine lv_aload_n hx hb dX6_digest_90 rfl (lv_at hl 4 rfl) ?_
            refine lv_iload hx hb dX6_digest_91 (lv_at hl 0 rfl) ?_
            refine k_vl S9 w (c_mshare_N l _) hR1 rfl (cwV 1 hts gX6_digest_X6_share rfl rfl rfl (by decide +kernel) ⟨Nat.le_of_ble_eq_true rfl, Nat.le_of_ble_eq_true rfl⟩) rfl hl.1 rfl (Nat.le_of_ble_eq_true rfl) dX6_digest_93 ⟨Nat.le_of_ble_eq_true rfl, Nat.le_of_ble_eq_true rfl⟩ (fun v12 e12 => ?_)
            refine lv_ladd hx hb dX6_digest_96 ?_
            refine lv_topl (fun v11 ev11 => ?_)
            refine lv_lstore_n (lv' := [(3, .long v11), (6, .int (-1)), (5, .int v), (2, .int (nI h)), (0, .ref x), (1, .int pl)]) hx hb dX6_digest_97 rfl hl (by decide) rfl (fun ls hl => ?_)
            obtain ⟨v12, ev12⟩ : ∃ z : Int32, z = v + 1 := ⟨_, rfl⟩
            refine lv_iinc (v := v12) (lv' := [(5, .int v12), (3, .long v11), (6, .int (-1)), (2, .int (nI h)), (0, .ref x), (1, .int pl)]) hx hb dX6_digest_98 hl (k := 2) rfl (by rw [ev12]; rfl) (by decide) rfl (fun ls hl => ?_)
            refine lv_goto (tgt := 66) hx hb dX6_digest_101 (by decide) ?_
            exact ih (ls := ls) (i := i + 1) (v := v12) (d := v11) (hi := by omega) (hv := by rw [ev12, hv]; exact nI_1 i) (hd := by rw [ev11, ev10, hd, e12]; simp only [dgO, he]; rfl) (hl := lv_sub hl [0, 1, 3, 4, 5] rfl) (ht := by omega)
          | some h4 =>
            rw [he] at er9
            replace er9 : r9 = nI h4 := er9
            subst er9
            obtain ⟨o4, ho4, hf4⟩ := hI.2.2.2.2.2.2 h o ho hk hm i h4 he
            refine lv_istore (lv' := [(6, .int (nI h4)), (5, .int v), (3, .long d), (2, .int (nI h)), (0, .ref x), (1, .int pl)]) hx hb dX6_digest_83 hl (by decide) rfl (fun ls hl => ?_)
            refine lv_ldc2 (v := 31) hx hb hown (hts (.constantLong RX6 121 (31)) (by decide +kernel)) dX6_digest_85 ?_
            refine lv_lload_n hx hb dX6_digest_88 rfl (lv_at hl 2 rfl) ?_
            refine lv_lmul hx hb dX6_digest_89 ?_
            refine lv_topl (fun v13 ev13 => ?_)
            refine lv_aload_n hx hb dX6_digest_90 rfl (lv_at hl 4 rfl) ?_
            refine lv_iload hx hb dX6_digest_91 (lv_at hl 0 rfl) ?_
            refine k_vl S9 w (c_mshare_S l _ hR hI ho4 (fit7 hk hm hf4)) hR1 rfl (cwV 1 hts gX6_digest_X6_share rfl rfl rfl (by decide +kernel) ⟨Nat.le_of_ble_eq_true rfl, Nat.le_of_ble_eq_true rfl⟩) rfl hl.1 rfl (Nat.le_of_ble_eq_true rfl) dX6_digest_93 ⟨Nat.le_of_ble_eq_true rfl, Nat.le_of_ble_eq_true rfl⟩ (fun v12 e12 => ?_)
            refine lv_ladd hx hb dX6_digest_96 ?_
            refine lv_topl (fun v14 ev14 => ?_)
            refine lv_lstore_n (lv' := [(3, .long v14), (6, .int (nI h4)), (5, .int v), (2, .int (nI h)), (0, .ref x), (1, .int pl)]) hx hb dX6_digest_97 rfl hl (by decide) rfl (fun ls hl => ?_)
            obtain ⟨v15, ev15⟩ : ∃ z : Int32, z = v + 1 := ⟨_, rfl⟩
            refine lv_iinc (v := v15) (lv' := [(5, .int v15), (3, .long v14), (6, .int (nI h4)), (2, .int (nI h)), (0, .ref x), (1, .int pl)]) hx hb dX6_digest_98 hl (k := 2) rfl (by rw [ev15]; rfl) (by decide) rfl (fun ls hl => ?_)
            refine lv_goto (tgt := 66) hx hb dX6_digest_101 (by decide) ?_
            exact ih (ls := ls) (i := i + 1) (v := v15) (d := v14) (hi := by omega) (hv := by rw [ev15, hv]; exact nI_1 i) (hd := by rw [ev14, ev13, hd, e12]; simp only [dgO, he]) (hl := lv_sub hl [0, 1, 3, 4, 5] rfl) (ht := by omega)
    · refine lv_istore_n (lv' := [(2, .int (nI h)), (0, .ref x), (1, .int pl)]) hx hb dX6_digest_5 rfl hl (by decide) rfl (fun ls hl => ?_)
      refine lv_iload_n hx hb dX6_digest_6 rfl (lv_at hl 0 rfl) ?_
      refine lv_if_ge (tgt := 12) hx hb dX6_digest_7 (by decide) (fun c_7 => ?_) (fun c_7 => absurd (nI_pos' (by have := hI.hd ho; omega)) c_7)
      refine lv_aload_n hx hb dX6_digest_12 rfl (lv_at hl 1 rfl) ?_
      refine lv_iload_n hx hb dX6_digest_13 rfl (lv_at hl 0 rfl) ?_
      refine k_vi S9 w (c_misThing l _ hR hI ho) hR1 rfl (cwV 1 hts gX6_digest_X6_isThing rfl rfl rfl (by decide +kernel) ⟨Nat.le_of_ble_eq_true rfl, Nat.le_of_ble_eq_true rfl⟩) rfl hl.1 rfl (Nat.le_of_ble_eq_true rfl) dX6_digest_14 ⟨Nat.le_of_ble_eq_true rfl, Nat.le_of_ble_eq_true rfl⟩ (fun r16 er16 => ?_)
      rw [if_pos (by omega)] at er16
      subst er16
      refine lv_if_eq (tgt := 40) hx hb dX6_digest_17 (by decide) (fun c_17 => absurd c_17 (by decide)) (fun c_17 => ?_)
      refine lv_ldc2 (v := 31) hx hb hown (hts (.constantLong RX6 121 (31)) (by decide +kernel)) dX6_digest_20 ?_
      refine lv_aload_n hx hb dX6_digest_23 rfl (lv_at hl 1 rfl) ?_
      refine lv_iload_n hx hb dX6_digest_24 rfl (lv_at hl 0 rfl) ?_
      refine k_vi S9 w (c_mkind l _ hR hI ho) hR1 rfl (cwV 1 hts gX6_digest_X6_kind rfl rfl rfl (by decide +kernel) ⟨Nat.le_of_ble_eq_true rfl, Nat.le_of_ble_eq_true rfl⟩) rfl hl.1 rfl (Nat.le_of_ble_eq_true rfl) dX6_digest_25 ⟨Nat.le_of_ble_eq_true rfl, Nat.le_of_ble_eq_true rfl⟩ (fun r17 er17 => ?_)
      subst er17
      obtain ⟨v18, ev18⟩ : ∃ z : Int64, Int32.toInt64 (nI (o_k o)) = z := ⟨_, rfl⟩
      refine lv_i2l (v := v18) hx hb dX6_digest_28 ev18 ?_
      refine lv_lconst (v := 1) hx hb dX6_digest_29 (by decide) ?_
      refine lv_ladd hx hb dX6_digest_30 ?_
      refine lv_topl (fun v19 ev19 => ?_)
      refine lv_lmul hx hb dX6_digest_31 ?_
      refine lv_topl (fun v20 ev20 => ?_)
      refine lv_aload_n hx hb dX6_digest_32 rfl (lv_at hl 1 rfl) ?_
      refine lv_iload_n hx hb dX6_digest_33 rfl (lv_at hl 0 rfl) ?_
      refine k_vi S9 w (c_mlow l _ hR hI ho) hR1 rfl (cwV 1 hts gX6_digest_X6_low rfl rfl rfl (by decide +kernel) ⟨Nat.le_of_ble_eq_true rfl, Nat.le_of_ble_eq_true rfl⟩) rfl hl.1 rfl (Nat.le_of_ble_eq_true rfl) dX6_digest_34 ⟨Nat.le_of_ble_eq_true rfl, Nat.le_of_ble_eq_true rfl⟩ (fun r21 er21 => ?_)
      replace er21 : r21 = o_v o := by rw [er21]; exact loV_thg hk
      subst er21
      obtain ⟨v22, ev22⟩ : ∃ z : Int64, Int32.toInt64 (o_v o) = z := ⟨_, rfl⟩
      refine lv_i2l (v := v22) hx hb dX6_digest_37 ev22 ?_
      refine lv_ladd hx hb dX6_digest_38 ?_
      refine lv_topl (fun v23 ev23 => ?_)
      exact e_l S9 hr hlk (by simp only [sp_digest, obj_some i_2 ho, show ¬ o_k o ≤ 3 by omega, show ¬ o_k o ≤ 6 by omega, if_false]; rw [← k64 (hI.ob ho).1]; subst_vars; rfl) dX6_digest_39
