theorem fitE_of {S : St} {k h : Nat} {o : Ob} (ho : s_o S h = some o) : fitE S k (some h) = decide ((k = 4 ∧ o_k o = 0) ∨ (k = 5 ∧ (o_k o = 7 ∨ o_k o = 8)) ∨ (k = 6 ∧ o_k o = 8)) := by
  unfold fitE
  rw [show obj S (some h) = some o from ho]
theorem fit7 {k k' : Nat} (hk : 4 ≤ k) (hm : k ≤ 6) (hf : fitK k k') (h0 : ¬ k' = 0) : 7 ≤ k' := by
  rw [fitK_iff hk hm] at hf
  omega
theorem mne {G : Gt} {A : Nat → Prop} {ws : va_W} {x ha at_ li : Nat} {fs : List Value} {hf : Nat → Int64} {af lf : Nat → Int32} (hD : va_D A ws) (m1 : hp ws x (.inr (4, fs))) (m2 : hp ws ha (aJ G 60000 hf)) (m3 : hp ws at_ (aI G 400 af)) (m4 : hp ws li (aI G 320 lf)) : (x ≠ ha ∧ x ≠ at_ ∧ x ≠ li) ∧ ha ≠ at_ ∧ ha ≠ li ∧ at_ ≠ li :=
  ⟨⟨hp_ne_of hD m1 m2 (fun q => by cases q), hp_ne_of hD m1 m3 (fun q => by cases q), hp_ne_of hD m1 m4 (fun q => by cases q)⟩, hp_ne_of hD m2 m3 (fun q => by simp at q), hp_ne_of hD m2 m4 (fun q => by simp at q), hp_ne_of hD m3 m4 (fun q => by simp at q)⟩
theorem RpM.sc {G : Gt} {x ha at_ li : Nat} {S : St} {A : Nat → Prop} {ws ws' : va_W} {f : Nat → Int32} {E : va_E} {fs : List Value} (hD : va_D A ws) (h : RpM G x ha at_ li S ws) (hx : hp ws x (.inr (4, fs))) (hW : hu ws x E ws') (hE : E = oM ha at_ li (nI (s_u S)) f) : RpM G x ha at_ li (s_u S, s_o S, s_s S, s_l S, f) ws' := by
  subst hE
  obtain ⟨hf, af, m1, m2, m3, m4, m5, m6⟩ := h
  obtain ⟨⟨n1, n2, n3⟩, -⟩ := mne hD m1 m2 m3 m4
  exact ⟨hf, af, hW.1, hW.keep n1.symm m2, hW.keep n2.symm m3, hW.keep n3.symm m4, m5, m6⟩
set_option maxHeartbeats 4000000 in
set_option maxRecDepth 100000 in
theorem c_mfits_N (l : Launch) {G : Gt} {ws : va_W} (sz : Nat) {x : Nat} (kk : Int32) : Met l yX6_fits wsX6_fits ({ frames := 1, cells := 0, slots := 0, locals := 21 } : Room) (Pw G [.ref x, .int (-1), .int kk] ws sz) (vp_Si (fun r : Int32 => r = 1)) 0 0 (fun _ => False) := by
  refine Met_pw (cc := cX6_fits) (maxL := 4) (ret := (some .boolean)) (by decide) rfl (Nat.le_of_ble_eq_true rfl) ?_
  intro p e s m below meth c ls hsz S9 hr hlk hnm w hl
  subst hsz
  replace S9 : CallFix p m c cX6_fits 4 s _ wsX6_fits RX6 := S9
  have hx := S9.1
  have hb := S9.2.1
  have hown := S9.2.2.2.1
  have hts := S9.2.2.2.2
  replace hl : lv_has ls 4 [(0, .ref x), (1, .int (-1)), (2, .int kk)] := hl
  refine lv_iload_n hx hb dX6_fits_0 rfl (lv_at hl 1 rfl) ?_
  refine lv_if_ge (tgt := 6) hx hb dX6_fits_1 (by decide) (fun c_1 => absurd c_1 (by decide)) (fun c_1 => ?_)
  refine lv_iconst (v := 1) hx hb dX6_fits_4 (by decide) ?_
  exact e_z S9 hr hlk (by first | exact Or.inl rfl | exact Or.inr rfl) (rfl) dX6_fits_5

set_option maxHeartbeats 4000000 in
set_option maxRecDepth 100000 in
theorem c_mfits_S (l : Launch) {G : Gt} {ws : va_W} (sz : Nat) {x ha at_ li : Nat} {S : St} (hR : RpM G x ha at_ li S ws) (hI : Inv S) {h : Nat} {o : Ob} (ho : s_o S h = some o) (k : Nat) (hk4 : 4 ≤ k) (hk6 : k ≤ 6) : Met l yX6_fits wsX6_fits ({ frames := 1, cells := 0, slots := 0, locals := 21 } : Room) (Pw G [.ref x, .int (nI h), .int (nI k)] ws sz) (vp_Si (fun r : Int32 => r = if fitE S k (some h) then 1 else 0)) 0 0 (fun _ => False) := by
  refine Met_pw (cc := cX6_fits) (maxL := 4) (ret := (some .boolean)) (by decide) rfl (Nat.le_of_ble_eq_true rfl) ?_
  intro p e s m below meth c ls hsz S9 hr hlk hnm w hl
  subst hsz
  replace S9 : CallFix p m c cX6_fits 4 s _ wsX6_fits RX6 := S9
  have hx := S9.1
  have hb := S9.2.1
  have hown := S9.2.2.2.1
  have hts := S9.2.2.2.2
  replace hl : lv_has ls 4 [(0, .ref x), (1, .int (nI h)), (2, .int (nI k))] := hl
  obtain ⟨hf, af, hR1, -⟩ := id hR
  refine lv_iload_n hx hb dX6_fits_0 rfl (lv_at hl 1 rfl) ?_
  refine lv_if_ge (tgt := 6) hx hb dX6_fits_1 (by decide) (fun c_1 => ?_) (fun c_1 => absurd (nI_pos' (by have := hI.hd ho; omega)) c_1)
  refine lv_aload_n hx hb dX6_fits_6 rfl (lv_at hl 0 rfl) ?_
  refine lv_iload_n hx hb dX6_fits_7 rfl (lv_at hl 1 rfl) ?_
  refine k_vi S9 w (c_mkind l _ hR hI ho) hR1 rfl (cwV 1 hts gX6_fits_X6_kind rfl rfl rfl (by decide +kernel) ⟨Nat.le_of_ble_eq_true rfl, Nat.le_of_ble_eq_true rfl⟩) rfl hl.1 rfl (Nat.le_of_ble_eq_true rfl) dX6_fits_8 ⟨Nat.le_of_ble_eq_true rfl, Nat.le_of_ble_eq_true rfl⟩ (fun r1 er1 => ?_)
  subst er1
  refine lv_istore_n (lv' := [(3, .int (nI (o_k o))), (0, .ref x), (1, .int (nI h)), (2, .int (nI k))]) hx hb dX6_fits_11 rfl hl (by decide) rfl (fun ls hl => ?_)
  refine lv_iload_n hx hb dX6_fits_12 rfl (lv_at hl 3 rfl) ?_
  refine lv_iconst (v := 4) hx hb dX6_fits_13 (by decide) ?_
  refine lv_icmp_ne (tgt := 29) hx hb dX6_fits_14 (by decide) (fun c_14 => ?_) (fun c_14 => ?_)
  · refine lv_iload_n hx hb dX6_fits_29 rfl (lv_at hl 3 rfl) ?_
    refine lv_iconst (v := 5) hx hb dX6_fits_30 (by decide) ?_
    refine lv_icmp_ne (tgt := 48) hx hb dX6_fits_31 (by decide) (fun c_31 => ?_) (fun c_31 => ?_)
    · refine lv_iload_n hx hb dX6_fits_48 rfl (lv_at hl 0 rfl) ?_
      refine lv_bipush (v := 8) hx hb dX6_fits_49 (by decide) ?_
      refine lv_icmp_ne (tgt := 58) hx hb dX6_fits_51 (by decide) (fun c_51 => ?_) (fun c_51 => ?_)
      · refine lv_iconst (v := 0) hx hb dX6_fits_58 (by decide) ?_
        exact e_z S9 hr hlk (by first | exact Or.inl rfl | exact Or.inr rfl) (by have k8 := (hI.ob ho).1; rw [fitE_of ho]; simp only [nIe4 (show k ≤ 8 by omega), nIe5 (show k ≤ 8 by omega)] at c_14 c_31; simp only [nIe0 k8, nIe8 k8] at c_51; rw [decide_eq_false (by omega)]; rfl) dX6_fits_59
      · refine lv_iconst (v := 1) hx hb dX6_fits_54 (by decide) ?_
        refine lv_goto (tgt := 59) hx hb dX6_fits_55 (by decide) ?_
        exact e_z S9 hr hlk (by first | exact Or.inl rfl | exact Or.inr rfl) (by have k8 := (hI.ob ho).1; rw [fitE_of ho]; simp only [nIe4 (show k ≤ 8 by omega), nIe5 (show k ≤ 8 by omega)] at c_14 c_31; simp only [nIe0 k8, nIe8 k8] at c_51; rw [decide_eq_true (by omega)]; rfl) dX6_fits_59
    · refine lv_iload_n hx hb dX6_fits_34 rfl (lv_at hl 0 rfl) ?_
      refine lv_bipush (v := 7) hx hb dX6_fits_35 (by decide) ?_
      refine lv_icmp_lt (tgt := 44) hx hb dX6_fits_37 (by decide) (fun c_37 => ?_) (fun c_37 => ?_)
      · refine lv_iconst (v := 0) hx hb dX6_fits_44 (by decide) ?_
        refine lv_goto (tgt := 59) hx hb dX6_fits_45 (by decide) ?_
        exact e_z S9 hr hlk (by first | exact Or.inl rfl | exact Or.inr rfl) (by have k8 := (hI.ob ho).1; rw [fitE_of ho]; simp only [nIe4 (show k ≤ 8 by omega), nIe5 (show k ≤ 8 by omega)] at c_14 c_31; have c37 : o_k o < 7 := (nI_ltI (b := 7) (by omega) (by decide)).mp c_37; rw [decide_eq_false (by omega)]; rfl) dX6_fits_59
      · refine lv_iconst (v := 1) hx hb dX6_fits_40 (by decide) ?_
        refine lv_goto (tgt := 59) hx hb dX6_fits_41 (by decide) ?_
        exact e_z S9 hr hlk (by first | exact Or.inl rfl | exact Or.inr rfl) (by have k8 := (hI.ob ho).1; rw [fitE_of ho]; simp only [nIe4 (show k ≤ 8 by omega), nIe5 (show k ≤ 8 by omega)] at c_14 c_31; have c37 : ¬ o_k o < 7 := (fun q => c_37 ((nI_ltI (b := 7) (by omega) (by decide)).mpr q)); rw [decide_eq_true (by omega)]; rfl) dX6_fits_59
  · refine lv_iload_n hx hb dX6_fits_17 rfl (lv_at hl 0 rfl) ?_
    refine lv_if_ne (tgt := 25) hx hb dX6_fits_18 (by decide) (fun c_18 => ?_) (fun c_18 => ?_)
    · refine lv_iconst (v := 0) hx hb dX6_fits_25 (by decide) ?_
      refine lv_goto (tgt := 59) hx hb dX6_fits_26 (by decide) ?_
      exact e_z S9 hr hlk (by first | exact Or.inl rfl | exact Or.inr rfl) (by have k8 := (hI.ob ho).1; rw [fitE_of ho]; simp only [nIe4 (show k ≤ 8 by omega), nIe5 (show k ≤ 8 by omega)] at c_14; simp only [nIe0 k8, nIe8 k8] at c_18; rw [decide_eq_false (by omega)]; rfl) dX6_fits_59
    · refine lv_iconst (v := 1) hx hb dX6_fits_21 (by decide) ?_
      refine lv_goto (tgt := 59) hx hb dX6_fits_22 (by decide) ?_
      exact e_z S9 hr hlk (by first | exact Or.inl rfl | exact Or.inr rfl) (by have k8 := (hI.ob ho).1; rw [fitE_of ho]; simp only [nIe4 (show k ≤ 8 by omega), nIe5 (show k ≤ 8 by omega)] at c_14; simp only [nIe0 k8, nIe8 k8] at c_18; rw [decide_eq_true (by omega)]; rfl) dX6_fits_59

set_option maxHeartbeats 4000000 in
set_option maxRecDepth 100000 in
theorem c_mtold_N (l : Launch) {G : Gt} {ws : va_W} (sz : Nat) {x ha at_ li : Nat} {S : St} (hR : RpM G x ha at_ li S ws) (hI : Inv S) {h : Nat} {o : Ob} (ho : s_o S h = some o) (hk : o_k o ≤ 3) (i : Int32) (i' : Nat) (ei : i = nI i') (hi' : i' < o_n o) : Met l yX6_told wsX6_told ({ frames := 2, cells := 0, slots := 0, locals := 42 } : Room) (Pw G [.ref x, .int (nI h), .int i] ws sz) (vp_Sl (fun r : Int64 => r = o_f o i')) 0 0 (fun _ => False) := by
  refine Met_pw (cc := cX6_told) (maxL := 4) (ret := (some .long)) (by decide) rfl (Nat.le_of_ble_eq_true rfl) ?_
  intro p e s m below meth c ls hsz S9 hr hlk hnm w hl
  subst hsz
  replace S9 : CallFix p m c cX6_told 4 s _ wsX6_told RX6 := S9
  have hx := S9.1
  have hb := S9.2.1
  have hown := S9.2.2.2.1
  have hts := S9.2.2.2.2
  replace hl : lv_has ls 4 [(0, .ref x), (1, .int (nI h)), (2, .int i)] := hl
  obtain ⟨hf, af, m1, m2, m3, m4, m5, m6⟩ := id hR
  have bh := hI.hd ho
  have m7 := (m6.1 h o ho).1
  have k8 := (hI.ob ho).1
  have n2 := (hI.ob ho).2
  have bs := (hI.2.2.2.1 h o ho).2.2
  have bu := hI.1
  refine lv_aload_n hx hb dX6_told_0 rfl (lv_at hl 0 rfl) ?_
  refine lv_iload_n hx hb dX6_told_1 rfl (lv_at hl 1 rfl) ?_
  refine k_vi S9 w (c_misOfObjects l _ hR hI ho) m1 rfl (cwV 1 hts gX6_told_X6_isOfObjects rfl rfl rfl (by decide +kernel) ⟨Nat.le_of_ble_eq_true rfl, Nat.le_of_ble_eq_true rfl⟩) rfl hl.1 rfl (Nat.le_of_ble_eq_true rfl) dX6_told_2 ⟨Nat.le_of_ble_eq_true rfl, Nat.le_of_ble_eq_true rfl⟩ (fun r1 er1 => ?_)
  rw [if_neg (by omega)] at er1
  subst er1
  refine lv_if_ne (tgt := 19) hx hb dX6_told_5 (by decide) (fun c_5 => absurd c_5 (by decide)) (fun c_5 => ?_)
  refine lv_aload_n hx hb dX6_told_8 rfl (lv_at hl 0 rfl) ?_
  refine r_get (ref := "SpanMoverModel") S9 w m1 rfl (by decide +kernel) 0 (by decide) (by decide +kernel) (Or.inl rfl) rfl dX6_told_9 ?_
  refine lv_iload_n hx hb dX6_told_12 rfl (lv_at hl 1 rfl) ?_
  refine lv_iconst (v := 1) hx hb dX6_told_13 (by decide) ?_
  refine lv_iadd hx hb dX6_told_14 ?_
  refine lv_topi (fun v2 ev2 => ?_)
  refine lv_iload_n hx hb dX6_told_15 rfl (lv_at hl 2 rfl) ?_
  refine lv_iadd hx hb dX6_told_16 ?_
  refine lv_topi (fun v3 ev3 => ?_)
  refine r_lald S9 w m2 (by rw [show v3 = nI (h + 1 + i') from by rw [ev3, ev2, ei]; exact (congrArg (· + nI i') (nI_1 h)).trans (nI_add (h + 1) i')]; exact vp_in_nI (by omega) (by decide)) dX6_told_17 ?_
  refine lv_topl (fun v4 ev4 => ?_)
  exact e_l S9 hr hlk (by rw [ev4, cl_nI (show v3 = nI (h + 1 + i') from by rw [ev3, ev2, ei]; exact (congrArg (· + nI i') (nI_1 h)).trans (nI_add (h + 1) i')) (by omega)]; exact (m6.1 h o ho).2.1 hk i' hi') dX6_told_18

set_option maxHeartbeats 4000000 in
set_option maxRecDepth 100000 in
theorem c_mtold_O (l : Launch) {G : Gt} {ws : va_W} (sz : Nat) {x ha at_ li : Nat} {S : St} (hR : RpM G x ha at_ li S ws) (hI : Inv S) {h : Nat} {o : Ob} (ho : s_o S h = some o) (hk : 4 ≤ o_k o) (hm : o_k o ≤ 6) (i : Int32) (i' : Nat) (ei : i = nI i') (hi' : i' < o_n o) : Met l yX6_told wsX6_told ({ frames := 2, cells := 0, slots := 0, locals := 42 } : Room) (Pw G [.ref x, .int (nI h), .int i] ws sz) (vp_Sl (fun r : Int64 => r = told (obj S (o_e o i')))) 0 0 (fun _ => False) := by
  refine Met_pw (cc := cX6_told) (maxL := 4) (ret := (some .long)) (by decide) rfl (Nat.le_of_ble_eq_true rfl) ?_
  intro p e s m below meth c ls hsz S9 hr hlk hnm w hl
  subst hsz
  replace S9 : CallFix p m c cX6_told 4 s _ wsX6_told RX6 := S9
  have hx := S9.1
  have hb := S9.2.1
  have hown := S9.2.2.2.1
  have hts := S9.2.2.2.2
  replace hl : lv_has ls 4 [(0, .ref x), (1, .int (nI h)), (2, .int i)] := hl
  obtain ⟨hf, af, m1, m2, m3, m4, m5, m6⟩ := id hR
  have bh := hI.hd ho
  have m7 := (m6.1 h o ho).1
  have k8 := (hI.ob ho).1
  have n2 := (hI.ob ho).2
  refine lv_aload_n hx hb dX6_told_0 rfl (lv_at hl 0 rfl) ?_
  refine lv_iload_n hx hb dX6_told_1 rfl (lv_at hl 1 rfl) ?_
  refine k_vi S9 w (c_misOfObjects l _ hR hI ho) m1 rfl (cwV 1 hts gX6_told_X6_isOfObjects rfl rfl rfl (by decide +kernel) ⟨Nat.le_of_ble_eq_true rfl, Nat.le_of_ble_eq_true rfl⟩) rfl hl.1 rfl (Nat.le_of_ble_eq_true rfl) dX6_told_2 ⟨Nat.le_of_ble_eq_true rfl, Nat.le_of_ble_eq_true rfl⟩ (fun r1 er1 => ?_)
  rw [if_pos (by omega)] at er1
  subst er1
  refine lv_if_ne (tgt := 19) hx hb dX6_told_5 (by decide) (fun c_5 => ?_) (fun c_5 => absurd c_5 (by decide))
  refine lv_aload_n hx hb dX6_told_19 rfl (lv_at hl 0 rfl) ?_
  refine lv_iload_n hx hb dX6_told_20 rfl (lv_at hl 1 rfl) ?_
  refine lv_iload_n hx hb dX6_told_21 rfl (lv_at hl 2 rfl) ?_
  refine k_vi S9 w (c_mobject l _ hR hI ho hk hm i i' ei hi') m1 rfl (cwV 2 hts gX6_told_X6_object rfl rfl rfl (by decide +kernel) ⟨Nat.le_of_ble_eq_true rfl, Nat.le_of_ble_eq_true rfl⟩) rfl hl.1 rfl (Nat.le_of_ble_eq_true rfl) dX6_told_22 ⟨Nat.le_of_ble_eq_true rfl, Nat.le_of_ble_eq_true rfl⟩ (fun r2 er2 => ?_)
  cases he : o_e o i' with
  | none =>
    rw [he] at er2
    replace er2 : r2 = (-1) := er2
    subst er2
    refine lv_istore_n (lv' := [(3, .int (-1)), (0, .ref x), (1, .int (nI h)), (2, .int i)]) hx hb dX6_told_25 rfl hl (by decide) rfl (fun ls hl => ?_)
    refine lv_iload_n hx hb dX6_told_26 rfl (lv_at hl 0 rfl) ?_
    refine lv_if_ge (tgt := 34) hx hb dX6_told_27 (by decide) (fun c_27 => absurd c_27 (by decide)) (fun c_27 => ?_)
    refine lv_ldc2 (v := (-1)) hx hb hown (hts (.constantLong RX6 87 (-1)) (by decide +kernel)) dX6_told_30 ?_
    exact e_l S9 hr hlk (rfl) dX6_told_33
  | some h4 =>
    rw [he] at er2
    replace er2 : r2 = nI h4 := er2
    subst er2
    obtain ⟨o4, ho4, hf4⟩ := hI.2.2.2.2.2.2 h o ho hk hm i' h4 he
    have b4 := hI.hd ho4
    refine lv_istore_n (lv' := [(3, .int (nI h4)), (0, .ref x), (1, .int (nI h)), (2, .int i)]) hx hb dX6_told_25 rfl hl (by decide) rfl (fun ls hl => ?_)
    refine lv_iload_n hx hb dX6_told_26 rfl (lv_at hl 0 rfl) ?_
    refine lv_if_ge (tgt := 34) hx hb dX6_told_27 (by decide) (fun c_27 => ?_) (fun c_27 => absurd (nI_pos' (by omega)) c_27)
    refine lv_aload_n hx hb dX6_told_34 rfl (lv_at hl 1 rfl) ?_
    refine lv_iload_n hx hb dX6_told_35 rfl (lv_at hl 0 rfl) ?_
    refine k_vi S9 w (c_mkind l _ hR hI ho4) m1 rfl (cwV 1 hts gX6_told_X6_kind rfl rfl rfl (by decide +kernel) ⟨Nat.le_of_ble_eq_true rfl, Nat.le_of_ble_eq_true rfl⟩) rfl hl.1 rfl (Nat.le_of_ble_eq_true rfl) dX6_told_36 ⟨Nat.le_of_ble_eq_true rfl, Nat.le_of_ble_eq_true rfl⟩ (fun r3 er3 => ?_)
    subst er3
    refine lv_if_ne (tgt := 51) hx hb dX6_told_39 (by decide) (fun c_k => ?_) (fun c_k => ?_)
    · have k4 : 7 ≤ o_k o4 := fit7 hk hm hf4 (by rwa [nIe0 (hI.ob ho4).1] at c_k)
      refine lv_aload_n hx hb dX6_told_51 rfl (lv_at hl 1 rfl) ?_
      refine r_get (ref := "SpanMoverModel") S9 w m1 rfl (by decide +kernel) 0 (by decide) (by decide +kernel) (Or.inl rfl) rfl dX6_told_52 ?_
      refine lv_iload_n hx hb dX6_told_55 rfl (lv_at hl 0 rfl) ?_
      refine r_lald S9 w m2 (vp_in_nI b4 (by decide)) dX6_told_56 ?_
      refine lv_topl (fun v4 ev4 => ?_)
      exact e_l S9 hr hlk (by rw [show obj S (some h4) = some o4 from ho4, ev4, nI_clamp (by omega), (m6.1 h4 o4 ho4).1]; simp only [told]; rw [if_pos k4]; unfold hdO; rw [loV_thg k4]; exact hd_told (hI.ob ho4).1 _) dX6_told_57
    · have k4 : o_k o4 = 0 := by rwa [nIe0 (hI.ob ho4).1] at c_k
      refine lv_aload_n hx hb dX6_told_42 rfl (lv_at hl 1 rfl) ?_
      refine lv_iload_n hx hb dX6_told_43 rfl (lv_at hl 0 rfl) ?_
      refine k_vi S9 w (c_mlow l _ hR hI ho4) m1 rfl (cwV 1 hts gX6_told_X6_low rfl rfl rfl (by decide +kernel) ⟨Nat.le_of_ble_eq_true rfl, Nat.le_of_ble_eq_true rfl⟩) rfl hl.1 rfl (Nat.le_of_ble_eq_true rfl) dX6_told_44 ⟨Nat.le_of_ble_eq_true rfl, Nat.le_of_ble_eq_true rfl⟩ (fun r5 er5 => ?_)
      rw [loV_row (by omega)] at er5
      subst er5
      obtain ⟨v6, ev6⟩ : ∃ z : Int64, Int32.toInt64 (nI (o_n o4)) = z := ⟨_, rfl⟩
      refine lv_i2l (v := v6) hx hb dX6_told_47 ev6 ?_
      refine lv_goto (tgt := 57) hx hb dX6_told_48 (by decide) ?_
      exact e_l S9 hr hlk (by rw [show obj S (some h4) = some o4 from ho4]; simp only [told]; rw [if_neg (by omega)]; exact ev6.symm) dX6_told_57

set_option maxHeartbeats 4000000 in
set_option maxRecDepth 100000 in
theorem c_mrefusal_N (l : Launch) {G : Gt} {ws : va_W} (sz : Nat) {x : Nat} (i : Int32) : Met l yX6_refusal wsX6_refusal ({ frames := 2, cells := 0, slots := 0, locals := 43 } : Room) (Pw G [.ref x, .int (-1), .int i] ws sz) (vp_Si (fun r : Int32 => r = 1)) 0 0 (fun _ => False) := by
  refine Met_pw (cc := cX6_refusal) (maxL := 3) (ret := (some .int)) (by decide) rfl (Nat.le_of_ble_eq_true rfl) ?_
  intro p e s m below meth c ls hsz S9 hr hlk hnm w hl
  subst hsz
  replace S9 : CallFix p m c cX6_refusal 3 s _ wsX6_refusal RX6 := S9
  have hx := S9.1
  have hb := S9.2.1
  have hown := S9.2.2.2.1
  have hts := S9.2.2.2.2
  replace hl : lv_has ls 3 [(0, .ref x), (1, .int (-1)), (2, .int i)] := hl
  refine lv_iload_n hx hb dX6_refusal_0 rfl (lv_at hl 1 rfl) ?_
  refine lv_if_ge (tgt := 8) hx hb dX6_refusal_1 (by decide) (fun c_1 => absurd c_1 (by decide)) (fun c_1 => ?_)
  refine lv_iconst (v := 1) hx hb dX6_refusal_4 (by decide) ?_
  refine lv_goto (tgt := 34) hx hb dX6_refusal_5 (by decide) ?_
  exact e_i S9 hr hlk (rfl) dX6_refusal_34

set_option maxHeartbeats 4000000 in
set_option maxRecDepth 100000 in
theorem c_mrefusal_R (l : Launch) {G : Gt} {ws : va_W} (sz : Nat) {x ha at_ li : Nat} {S : St} (hR : RpM G x ha at_ li S ws) (hI : Inv S) {h : Nat} {o : Ob} (ho : s_o S h = some o) (hk : o_k o ≤ 6) (i : Int32) : Met l yX6_refusal wsX6_refusal ({ frames := 2, cells := 0, slots := 0, locals := 43 } : Room) (Pw G [.ref x, .int (nI h), .int i] ws sz) (vp_Si (fun r : Int32 => r = if inE (o_n o) i then 0 else 4)) 0 0 (fun _ => False) := by
  refine Met_pw (cc := cX6_refusal) (maxL := 3) (ret := (some .int)) (by decide) rfl (Nat.le_of_ble_eq_true rfl) ?_
  intro p e s m below meth c ls hsz S9 hr hlk hnm w hl
  subst hsz
  replace S9 : CallFix p m c cX6_refusal 3 s _ wsX6_refusal RX6 := S9
  have hx := S9.1
  have hb := S9.2.1
  have hown := S9.2.2.2.1
  have hts := S9.2.2.2.2
  replace hl : lv_has ls 3 [(0, .ref x), (1, .int (nI h)), (2, .int i)] := hl
  obtain ⟨hf, af, hR1, -⟩ := id hR
  refine lv_iload_n hx hb dX6_refusal_0 rfl (lv_at hl 1 rfl) ?_
  refine lv_if_ge (tgt := 8) hx hb dX6_refusal_1 (by decide) (fun c_1 => ?_) (fun c_1 => absurd (nI_pos' (by have := hI.hd ho; omega)) c_1)
  refine lv_aload_n hx hb dX6_refusal_8 rfl (lv_at hl 0 rfl) ?_
  refine lv_iload_n hx hb dX6_refusal_9 rfl (lv_at hl 1 rfl) ?_
  refine k_vi S9 w (c_misThing l _ hR hI ho) hR1 rfl (cwV 1 hts gX6_refusal_X6_isThing rfl rfl rfl (by decide +kernel) ⟨Nat.le_of_ble_eq_true rfl, Nat.le_of_ble_eq_true rfl⟩) rfl hl.1 rfl (Nat.le_of_ble_eq_true rfl) dX6_refusal_10 ⟨Nat.le_of_ble_eq_true rfl, Nat.le_of_ble_eq_true rfl⟩ (fun r1 er1 => ?_)
  rw [if_neg (by omega)] at er1
  subst er1
  refine lv_if_eq (tgt := 20) hx hb dX6_refusal_13 (by decide) (fun c_13 => ?_) (fun c_13 => absurd c_13 (by decide))
  refine lv_aload_n hx hb dX6_refusal_20 rfl (lv_at hl 0 rfl) ?_
  refine lv_iload_n hx hb dX6_refusal_21 rfl (lv_at hl 1 rfl) ?_
  refine lv_iload_n hx hb dX6_refusal_22 rfl (lv_at hl 2 rfl) ?_
  refine k_vi S9 w (c_misElement l _ hR hI ho (by omega) i) hR1 rfl (cwV 2 hts gX6_refusal_X6_isElement rfl rfl rfl (by decide +kernel) ⟨Nat.le_of_ble_eq_true rfl, Nat.le_of_ble_eq_true rfl⟩) rfl hl.1 rfl (Nat.le_of_ble_eq_true rfl) dX6_refusal_23 ⟨Nat.le_of_ble_eq_true rfl, Nat.le_of_ble_eq_true rfl⟩ (fun r2 er2 => ?_)
  rcases Decidable.em (inE (o_n o) i) with hE | hE
  · rw [if_pos hE] at er2
    subst er2
    refine lv_if_ne (tgt := 33) hx hb dX6_refusal_26 (by decide) (fun c_26 => ?_) (fun c_26 => absurd c_26 (by decide))
    refine lv_iconst (v := 0) hx hb dX6_refusal_33 (by decide) ?_
    exact e_i S9 hr hlk (by rw [if_pos hE]) dX6_refusal_34
  · rw [if_neg hE] at er2
    subst er2
    refine lv_if_ne (tgt := 33) hx hb dX6_refusal_26 (by decide) (fun c_26 => absurd c_26 (by decide)) (fun c_26 => ?_)
    refine lv_iconst (v := 4) hx hb dX6_refusal_29 (by decide) ?_
    refine lv_goto (tgt := 34) hx hb dX6_refusal_30 (by decide) ?_
    exact e_i S9 hr hlk (by rw [if_neg hE]) dX6_refusal_34

set_option maxHeartbeats 4000000 in
set_option maxRecDepth 100000 in
theorem c_mrefusal_T (l : Launch) {G : Gt} {ws : va_W} (sz : Nat) {x ha at_ li : Nat} {S : St} (hR : RpM G x ha at_ li S ws) (hI : Inv S) {h : Nat} {o : Ob} (ho : s_o S h = some o) (hk : 7 ≤ o_k o) (i : Int32) : Met l yX6_refusal wsX6_refusal ({ frames := 2, cells := 0, slots := 0, locals := 43 } : Room) (Pw G [.ref x, .int (nI h), .int i] ws sz) (vp_Si (fun r : Int32 => r = 2)) 0 0 (fun _ => False) := by
  refine Met_pw (cc := cX6_refusal) (maxL := 3) (ret := (some .int)) (by decide) rfl (Nat.le_of_ble_eq_true rfl) ?_
  intro p e s m below meth c ls hsz S9 hr hlk hnm w hl
  subst hsz
  replace S9 : CallFix p m c cX6_refusal 3 s _ wsX6_refusal RX6 := S9
  have hx := S9.1
  have hb := S9.2.1
  have hown := S9.2.2.2.1
  have hts := S9.2.2.2.2
  replace hl : lv_has ls 3 [(0, .ref x), (1, .int (nI h)), (2, .int i)] := hl
  obtain ⟨hf, af, hR1, -⟩ := id hR
  refine lv_iload_n hx hb dX6_refusal_0 rfl (lv_at hl 1 rfl) ?_
  refine lv_if_ge (tgt := 8) hx hb dX6_refusal_1 (by decide) (fun c_1 => ?_) (fun c_1 => absurd (nI_pos' (by have := hI.hd ho; omega)) c_1)
  refine lv_aload_n hx hb dX6_refusal_8 rfl (lv_at hl 0 rfl) ?_
  refine lv_iload_n hx hb dX6_refusal_9 rfl (lv_at hl 1 rfl) ?_
  refine k_vi S9 w (c_misThing l _ hR hI ho) hR1 rfl (cwV 1 hts gX6_refusal_X6_isThing rfl rfl rfl (by decide +kernel) ⟨Nat.le_of_ble_eq_true rfl, Nat.le_of_ble_eq_true rfl⟩) rfl hl.1 rfl (Nat.le_of_ble_eq_true rfl) dX6_refusal_10 ⟨Nat.le_of_ble_eq_true rfl, Nat.le_of_ble_eq_true rfl⟩ (fun r1 er1 => ?_)
  rw [if_pos (by omega)] at er1
  subst er1
  refine lv_if_eq (tgt := 20) hx hb dX6_refusal_13 (by decide) (fun c_13 => absurd c_13 (by decide)) (fun c_13 => ?_)
  refine lv_iconst (v := 2) hx hb dX6_refusal_16 (by decide) ?_
  refine lv_goto (tgt := 34) hx hb dX6_refusal_17 (by decide) ?_
  exact e_i S9 hr hlk (rfl) dX6_refusal_34

set_option maxHeartbeats 4000000 in
set_option maxRecDepth 100000 in
theorem c_mget (l : Launch) {G : Gt} {ws : va_W} (sz : Nat) {x ha at_ li : Nat} {S : St} (hR : RpM G x ha at_ li S ws) (hI : Inv S) (pl i : Int32) : Met l yX6_get wsX6_get ({ frames := 3, cells := 0, slots := 0, locals := 65 } : Room) (Pw G [.ref x, .int pl, .int i] ws sz) (va_Ql (fun (r : Int64) (u : va_W) => r = (sp_get S pl i).1 ∧ RpM G x ha at_ li (sp_get S pl i).2 u) (Bw G ws sz) (va_A ws sz)) 0 0 (va_A ws sz) := by
  refine Met_pw (cc := cX6_get) (maxL := 4) (ret := (some .long)) (by decide) rfl (Nat.le_of_ble_eq_true rfl) ?_
  intro p e s m below meth c ls hsz S9 hr hlk hnm w hl
  subst hsz
  replace S9 : CallFix p m c cX6_get 4 s _ wsX6_get RX6 := S9
  have hx := S9.1
  have hb := S9.2.1
  have hown := S9.2.2.2.1
  have hts := S9.2.2.2.2
  replace hl : lv_has ls 4 [(0, .ref x), (1, .int pl), (2, .int i)] := hl
  obtain ⟨hf, af, m1, m2, m3, m4, m5, m6⟩ := id hR
  refine lv_aload_n hx hb dX6_get_0 rfl (lv_at hl 0 rfl) ?_
  refine lv_iload_n hx hb dX6_get_1 rfl (lv_at hl 1 rfl) ?_
  refine kx_in S9 w hR hI gX6_get_X6_in hl.1 (Nat.le_of_ble_eq_true rfl) dX6_get_2 ⟨Nat.le_of_ble_eq_true rfl, Nat.le_of_ble_eq_true rfl⟩ ⟨Nat.le_of_ble_eq_true rfl, Nat.le_of_ble_eq_true rfl⟩ (fun i_2 => ?_) (fun h o i_2 ho => ?_)
  · refine lv_istore_n (lv' := [(3, .int (-1)), (0, .ref x), (1, .int pl), (2, .int i)]) hx hb dX6_get_5 rfl hl (by decide) rfl (fun ls hl => ?_)
    refine lv_aload_n hx hb dX6_get_6 rfl (lv_at hl 1 rfl) ?_
    refine lv_aload_n hx hb dX6_get_7 rfl (lv_at hl 1 rfl) ?_
    refine lv_iload_n hx hb dX6_get_8 rfl (lv_at hl 0 rfl) ?_
    refine lv_iload_n hx hb dX6_get_9 rfl (lv_at hl 3 rfl) ?_
    refine k_vi S9 w (c_mrefusal_N l _ i) m1 rfl (cwV 2 hts gX6_get_X6_refusal rfl rfl rfl (by decide +kernel) ⟨Nat.le_of_ble_eq_true rfl, Nat.le_of_ble_eq_true rfl⟩) rfl hl.1 rfl (Nat.le_of_ble_eq_true rfl) dX6_get_10 ⟨Nat.le_of_ble_eq_true rfl, Nat.le_of_ble_eq_true rfl⟩ (fun r1 er1 => ?_)
    subst er1
    refine r_put (ref := "SpanMoverModel") S9 w m1 rfl (by decide +kernel) tyX6_ok nmX6 5 (by decide) (by decide +kernel) (Or.inl rfl) rfl rfl rfl (Nat.le_of_ble_eq_true rfl) dX6_get_13 (fun wsa1 Ha1 lca1 ua1 wa1 => ?_)
    have hRa1 := RpM.sc (f := upd (s_c S) 2 1) w.2.1 hR m1 ua1 rfl
    replace hRa1 : RpM G x ha at_ li (s_u S, s_o S, s_s S, s_l S, upd (s_c S) 2 1) wsa1 := hRa1
    obtain ⟨hfa1, afa1, m1a1, m2a1, m3a1, m4a1, m5a1, m6a1⟩ := id hRa1
    have xa1 : hp wsa1 x (.inr (4, [.ref ha, .int (nI (s_u S)), .ref at_, .ref li, .int (s_c S 0), .int (1 : Int32), .int (s_c S 4), .int (s_c S 3), .int (s_c S 5), .int (s_c S 6)])) := m1a1
    refine lv_aload_n hx hb dX6_get_16 rfl (lv_at hl 1 rfl) ?_
    refine r_get (ref := "SpanMoverModel") S9 wa1 xa1 rfl (by decide +kernel) 5 (by decide) (by decide +kernel) (Or.inl rfl) rfl dX6_get_17 ?_
    refine lv_if_le (tgt := 27) hx hb dX6_get_20 (by decide) (fun c_20 => absurd c_20 (by decide)) (fun c_20 => ?_)
    refine lv_lconst (v := 0) hx hb dX6_get_23 (by decide) ?_
    refine lv_goto (tgt := 33) hx hb dX6_get_24 (by decide) ?_
    exact ew_l S9 hr hlk wa1 (by rw [show sp_get S pl i = (0, s_sc S (upd (s_c S) 2 1)) from by simp [sp_get, obj_none i_2, ref1]]; exact ⟨rfl, hRa1⟩) dX6_get_33 (by decide) (by decide)
  · rcases (show o_k o ≤ 3 ∨ (4 ≤ o_k o ∧ o_k o ≤ 6) ∨ 7 ≤ o_k o by omega) with hk | ⟨hk, hm⟩ | hk
    · refine lv_istore_n (lv' := [(3, .int (nI h)), (0, .ref x), (1, .int pl), (2, .int i)]) hx hb dX6_get_5 rfl hl (by decide) rfl (fun ls hl => ?_)
      refine lv_aload_n hx hb dX6_get_6 rfl (lv_at hl 1 rfl) ?_
      refine lv_aload_n hx hb dX6_get_7 rfl (lv_at hl 1 rfl) ?_
      refine lv_iload_n hx hb dX6_get_8 rfl (lv_at hl 0 rfl) ?_
      refine lv_iload_n hx hb dX6_get_9 rfl (lv_at hl 3 rfl) ?_
      refine k_vi S9 w (c_mrefusal_R l _ hR hI ho (by omega) i) m1 rfl (cwV 2 hts gX6_get_X6_refusal rfl rfl rfl (by decide +kernel) ⟨Nat.le_of_ble_eq_true rfl, Nat.le_of_ble_eq_true rfl⟩) rfl hl.1 rfl (Nat.le_of_ble_eq_true rfl) dX6_get_10 ⟨Nat.le_of_ble_eq_true rfl, Nat.le_of_ble_eq_true rfl⟩ (fun r2 er2 => ?_)
      rcases Decidable.em (inE (o_n o) i) with hE | hE
      · rw [if_pos hE] at er2
        subst er2
        refine r_put (ref := "SpanMoverModel") S9 w m1 rfl (by decide +kernel) tyX6_ok nmX6 5 (by decide) (by decide +kernel) (Or.inl rfl) rfl rfl rfl (Nat.le_of_ble_eq_true rfl) dX6_get_13 (fun wsa1 Ha1 lca1 ua1 wa1 => ?_)
        have hRa1 := RpM.sc (f := upd (s_c S) 2 0) w.2.1 hR m1 ua1 rfl
        replace hRa1 : RpM G x ha at_ li (s_u S, s_o S, s_s S, s_l S, upd (s_c S) 2 0) wsa1 := hRa1
        obtain ⟨hfa1, afa1, m1a1, m2a1, m3a1, m4a1, m5a1, m6a1⟩ := id hRa1
        have xa1 : hp wsa1 x (.inr (4, [.ref ha, .int (nI (s_u S)), .ref at_, .ref li, .int (s_c S 0), .int (0 : Int32), .int (s_c S 4), .int (s_c S 3), .int (s_c S 5), .int (s_c S 6)])) := m1a1
        refine lv_aload_n hx hb dX6_get_16 rfl (lv_at hl 1 rfl) ?_
        refine r_get (ref := "SpanMoverModel") S9 wa1 xa1 rfl (by decide +kernel) 5 (by decide) (by decide +kernel) (Or.inl rfl) rfl dX6_get_17 ?_
        refine lv_if_le (tgt := 27) hx hb dX6_get_20 (by decide) (fun c_20 => ?_) (fun c_20 => absurd c_20 (by decide))
        refine lv_aload_n hx hb dX6_get_27 rfl (lv_at hl 1 rfl) ?_
        refine lv_iload_n hx hb dX6_get_28 rfl (lv_at hl 0 rfl) ?_
        refine lv_iload_n hx hb dX6_get_29 rfl (lv_at hl 3 rfl) ?_
        obtain ⟨i', hi', ei⟩ := vp_in_of (inE_in hE (by have := (hI.ob ho).2; omega)) (by have := (hI.ob ho).2; omega)
        have yi : i.toNatClampNeg = i' := cl_nI ei (by have := (hI.ob ho).2; omega)
        refine k_vl S9 wa1 (c_mtold_N l _ hRa1 (Inv.sc hI (upd (s_c S) 2 0) rfl rfl) ho hk i i' ei hi') xa1 rfl (cwV 2 hts gX6_get_X6_told rfl rfl rfl (by decide +kernel) ⟨Nat.le_of_ble_eq_true rfl, Nat.le_of_ble_eq_true rfl⟩) rfl hl.1 rfl (Nat.le_of_ble_eq_true rfl) dX6_get_30 ⟨Nat.le_of_ble_eq_true rfl, Nat.le_of_ble_eq_true rfl⟩ (fun v10 e10 => ?_)
        exact ew_l S9 hr hlk wa1 (by rw [show sp_get S pl i = (v10, s_sc S (upd (s_c S) 2 0)) from by have er : ref1 (some o) i 0 6 = 0 := (by rw [ref1_row (by omega), if_neg (show ¬ nI (o_k o) < 0 from nI_pos (by omega)), if_pos (show nI (o_k o) ≤ 6 from (nI_leI (b := 6) (by omega) (by decide)).mpr (by omega)), if_pos hE]); rw [e10, ← yi]; simp [sp_get, obj_some i_2 ho, er, hk]]; exact ⟨rfl, hRa1⟩) dX6_get_33 (by decide) (by decide)
      · rw [if_neg hE] at er2
        subst er2
        refine r_put (ref := "SpanMoverModel") S9 w m1 rfl (by decide +kernel) tyX6_ok nmX6 5 (by decide) (by decide +kernel) (Or.inl rfl) rfl rfl rfl (Nat.le_of_ble_eq_true rfl) dX6_get_13 (fun wsa1 Ha1 lca1 ua1 wa1 => ?_)
        have hRa1 := RpM.sc (f := upd (s_c S) 2 4) w.2.1 hR m1 ua1 rfl
        replace hRa1 : RpM G x ha at_ li (s_u S, s_o S, s_s S, s_l S, upd (s_c S) 2 4) wsa1 := hRa1
        obtain ⟨hfa1, afa1, m1a1, m2a1, m3a1, m4a1, m5a1, m6a1⟩ := id hRa1
        have xa1 : hp wsa1 x (.inr (4, [.ref ha, .int (nI (s_u S)), .ref at_, .ref li, .int (s_c S 0), .int (4 : Int32), .int (s_c S 4), .int (s_c S 3), .int (s_c S 5), .int (s_c S 6)])) := m1a1
        refine lv_aload_n hx hb dX6_get_16 rfl (lv_at hl 1 rfl) ?_
        refine r_get (ref := "SpanMoverModel") S9 wa1 xa1 rfl (by decide +kernel) 5 (by decide) (by decide +kernel) (Or.inl rfl) rfl dX6_get_17 ?_
        refine lv_if_le (tgt := 27) hx hb dX6_get_20 (by decide) (fun c_20 => absurd c_20 (by decide)) (fun c_20 => ?_)
        refine lv_lconst (v := 0) hx hb dX6_get_23 (by decide) ?_
        refine lv_goto (tgt := 33) hx hb dX6_get_24 (by decide) ?_
        exact ew_l S9 hr hlk wa1 (by rw [show sp_get S pl i = (0, s_sc S (upd (s_c S) 2 4)) from by have er : ref1 (some o) i 0 6 = 4 := (by rw [ref1_row (by omega), if_neg (show ¬ nI (o_k o) < 0 from nI_pos (by omega)), if_pos (show nI (o_k o) ≤ 6 from (nI_leI (b := 6) (by omega) (by decide)).mpr (by omega)), if_neg hE]); simp [sp_get, obj_some i_2 ho, er]]; exact ⟨rfl, hRa1⟩) dX6_get_33 (by decide) (by decide)
    · refine lv_istore_n (lv' := [(3, .int (nI h)), (0, .ref x), (1, .int pl), (2, .int i)]) hx hb dX6_get_5 rfl hl (by decide) rfl (fun ls hl => ?_)
      refine lv_aload_n hx hb dX6_get_6 rfl (lv_at hl 1 rfl) ?_
      refine lv_aload_n hx hb dX6_get_7 rfl (lv_at hl 1 rfl) ?_
      refine lv_iload_n hx hb dX6_get_8 rfl (lv_at hl 0 rfl) ?_
      refine lv_iload_n hx hb dX6_get_9 rfl (lv_at hl 3 rfl) ?_
      refine k_vi S9 w (c_mrefusal_R l _ hR hI ho (by omega) i) m1 rfl (cwV 2 hts gX6_get_X6_refusal rfl rfl rfl (by decide +kernel) ⟨Nat.le_of_ble_eq_true rfl, Nat.le_of_ble_eq_true rfl⟩) rfl hl.1 rfl (Nat.le_of_ble_eq_true rfl) dX6_get_10 ⟨Nat.le_of_ble_eq_true rfl, Nat.le_of_ble_eq_true rfl⟩ (fun r3 er3 => ?_)
      rcases Decidable.em (inE (o_n o) i) with hE | hE
      · rw [if_pos hE] at er3
        subst er3
        refine r_put (ref := "SpanMoverModel") S9 w m1 rfl (by decide +kernel) tyX6_ok nmX6 5 (by decide) (by decide +kernel) (Or.inl rfl) rfl rfl rfl (Nat.le_of_ble_eq_true rfl) dX6_get_13 (fun wsa1 Ha1 lca1 ua1 wa1 => ?_)
        have hRa1 := RpM.sc (f := upd (s_c S) 2 0) w.2.1 hR m1 ua1 rfl
        replace hRa1 : RpM G x ha at_ li (s_u S, s_o S, s_s S, s_l S, upd (s_c S) 2 0) wsa1 := hRa1
        obtain ⟨hfa1, afa1, m1a1, m2a1, m3a1, m4a1, m5a1, m6a1⟩ := id hRa1
        have xa1 : hp wsa1 x (.inr (4, [.ref ha, .int (nI (s_u S)), .ref at_, .ref li, .int (s_c S 0), .int (0 : Int32), .int (s_c S 4), .int (s_c S 3), .int (s_c S 5), .int (s_c S 6)])) := m1a1
        refine lv_aload_n hx hb dX6_get_16 rfl (lv_at hl 1 rfl) ?_
        refine r_get (ref := "SpanMoverModel") S9 wa1 xa1 rfl (by decide +kernel) 5 (by decide) (by decide +kernel) (Or.inl rfl) rfl dX6_get_17 ?_
        refine lv_if_le (tgt := 27) hx hb dX6_get_20 (by decide) (fun c_20 => ?_) (fun c_20 => absurd c_20 (by decide))
        refine lv_aload_n hx hb dX6_get_27 rfl (lv_at hl 1 rfl) ?_
        refine lv_iload_n hx hb dX6_get_28 rfl (lv_at hl 0 rfl) ?_
        refine lv_iload_n hx hb dX6_get_29 rfl (lv_at hl 3 rfl) ?_
        obtain ⟨i', hi', ei⟩ := vp_in_of (inE_in hE (by have := (hI.ob ho).2; omega)) (by have := (hI.ob ho).2; omega)
        have yi : i.toNatClampNeg = i' := cl_nI ei (by have := (hI.ob ho).2; omega)
        refine k_vl S9 wa1 (c_mtold_O l _ hRa1 (Inv.sc hI (upd (s_c S) 2 0) rfl rfl) ho hk hm i i' ei hi') xa1 rfl (cwV 2 hts gX6_get_X6_told rfl rfl rfl (by decide +kernel) ⟨Nat.le_of_ble_eq_true rfl, Nat.le_of_ble_eq_true rfl⟩) rfl hl.1 rfl (Nat.le_of_ble_eq_true rfl) dX6_get_30 ⟨Nat.le_of_ble_eq_true rfl, Nat.le_of_ble_eq_true rfl⟩ (fun v10 e10 => ?_)
        exact ew_l S9 hr hlk wa1 (by rw [show sp_get S pl i = (v10, s_sc S (upd (s_c S) 2 0)) from by have er : ref1 (some o) i 0 6 = 0 := (by rw [ref1_row (by omega), if_neg (show ¬ nI (o_k o) < 0 from nI_pos (by omega)), if_pos (show nI (o_k o) ≤ 6 from (nI_leI (b := 6) (by omega) (by decide)).mpr (by omega)), if_pos hE]); have e10 : v10 = told (obj S (o_e o i')) := e10; rw [e10, ← yi]; simp [sp_get, obj_some i_2 ho, er, show ¬ o_k o ≤ 3 by omega]]; exact ⟨rfl, hRa1⟩) dX6_get_33 (by decide) (by decide)
      · rw [if_neg hE] at er3
        subst er3
        refine r_put (ref := "SpanMoverModel") S9 w m1 rfl (by decide +kernel) tyX6_ok nmX6 5 (by decide) (by decide +kernel) (Or.inl rfl) rfl rfl rfl (Nat.le_of_ble_eq_true rfl) dX6_get_13 (fun wsa1 Ha1 lca1 ua1 wa1 => ?_)
        have hRa1 := RpM.sc (f := upd (s_c S) 2 4) w.2.1 hR m1 ua1 rfl
        replace hRa1 : RpM G x ha at_ li (s_u S, s_o S, s_s S, s_l S, upd (s_c S) 2 4) wsa1 := hRa1
        obtain ⟨hfa1, afa1, m1a1, m2a1, m3a1, m4a1, m5a1, m6a1⟩ := id hRa1
        have xa1 : hp wsa1 x (.inr (4, [.ref ha, .int (nI (s_u S)), .ref at_, .ref li, .int (s_c S 0), .int (4 : Int32), .int (s_c S 4), .int (s_c S 3), .int (s_c S 5), .int (s_c S 6)])) := m1a1
        refine lv_aload_n hx hb dX6_get_16 rfl (lv_at hl 1 rfl) ?_
        refine r_get (ref := "SpanMoverModel") S9 wa1 xa1 rfl (by decide +kernel) 5 (by decide) (by decide +kernel) (Or.inl rfl) rfl dX6_get_17 ?_
        refine lv_if_le (tgt := 27) hx hb dX6_get_20 (by decide) (fun c_20 => absurd c_20 (by decide)) (fun c_20 => ?_)
        refine lv_lconst (v := 0) hx hb dX6_get_23 (by decide) ?_
        refine lv_goto (tgt := 33) hx hb dX6_get_24 (by decide) ?_
        exact ew_l S9 hr hlk wa1 (by rw [show sp_get S pl i = (0, s_sc S (upd (s_c S) 2 4)) from by have er : ref1 (some o) i 0 6 = 4 := (by rw [ref1_row (by omega), if_neg (show ¬ nI (o_k o) < 0 from nI_pos (by omega)), if_pos (show nI (o_k o) ≤ 6 from (nI_leI (b := 6) (by omega) (by decide)).mpr (by omega)), if_neg hE]); simp [sp_get, obj_some i_2 ho, er]]; exact ⟨rfl, hRa1⟩) dX6_get_33 (by decide) (by decide)
    · refine lv_istore_n (lv' := [(3, .int (nI h)), (0, .ref x), (1, .int pl), (2, .int i)]) hx hb dX6_get_5 rfl hl (by decide) rfl (fun ls hl => ?_)
      refine lv_aload_n hx hb dX6_get_6 rfl (lv_at hl 1 rfl) ?_
      refine lv_aload_n hx hb dX6_get_7 rfl (lv_at hl 1 rfl) ?_
      refine lv_iload_n hx hb dX6_get_8 rfl (lv_at hl 0 rfl) ?_
      refine lv_iload_n hx hb dX6_get_9 rfl (lv_at hl 3 rfl) ?_
      refine k_vi S9 w (c_mrefusal_T l _ hR hI ho hk i) m1 rfl (cwV 2 hts gX6_get_X6_refusal rfl rfl rfl (by decide +kernel) ⟨Nat.le_of_ble_eq_true rfl, Nat.le_of_ble_eq_true rfl⟩) rfl hl.1 rfl (Nat.le_of_ble_eq_true rfl) dX6_get_10 ⟨Nat.le_of_ble_eq_true rfl, Nat.le_of_ble_eq_true rfl⟩ (fun r4 er4 => ?_)
      subst er4
      refine r_put (ref := "SpanMoverModel") S9 w m1 rfl (by decide +kernel) tyX6_ok nmX6 5 (by decide) (by decide +kernel) (Or.inl rfl) rfl rfl rfl (Nat.le_of_ble_eq_true rfl) dX6_get_13 (fun wsa1 Ha1 lca1 ua1 wa1 => ?_)
      have hRa1 := RpM.sc (f := upd (s_c S) 2 2) w.2.1 hR m1 ua1 rfl
      replace hRa1 : RpM G x ha at_ li (s_u S, s_o S, s_s S, s_l S, upd (s_c S) 2 2) wsa1 := hRa1
      obtain ⟨hfa1, afa1, m1a1, m2a1, m3a1, m4a1, m5a1, m6a1⟩ := id hRa1
      have xa1 : hp wsa1 x (.inr (4, [.ref ha, .int (nI (s_u S)), .ref at_, .ref li, .int (s_c S 0), .int (2 : Int32), .int (s_c S 4), .int (s_c S 3), .int (s_c S 5), .int (s_c S 6)])) := m1a1
      refine lv_aload_n hx hb dX6_get_16 rfl (lv_at hl 1 rfl) ?_
      refine r_get (ref := "SpanMoverModel") S9 wa1 xa1 rfl (by decide +kernel) 5 (by decide) (by decide +kernel) (Or.inl rfl) rfl dX6_get_17 ?_
      refine lv_if_le (tgt := 27) hx hb dX6_get_20 (by decide) (fun c_20 => absurd c_20 (by decide)) (fun c_20 => ?_)
      refine lv_lconst (v := 0) hx hb dX6_get_23 (by decide) ?_
      refine lv_goto (tgt := 33) hx hb dX6_get_24 (by decide) ?_
      exact ew_l S9 hr hlk wa1 (by rw [show sp_get S pl i = (0, s_sc S (upd (s_c S) 2 2)) from by simp [sp_get, obj_some i_2 ho, ref1_thg hk]]; exact ⟨rfl, hRa1⟩) dX6_get_33 (by decide) (by decide)
