theorem Inv.hd {S : St} (hI : Inv S) {h : Nat} {o : Ob} (ho : s_o S h = some o) : h < 60000 := by
  have h1 := (hI.2.2.2.1 h o ho).2.2
  have h2 := hI.1
  omega
theorem loV_row {o : Ob} (h : o_k o ≤ 6) : loV o = nI (o_n o) := by
  unfold loV
  rw [if_neg (by omega)]
theorem sh_le0 {S : St} (hI : Inv S) {k : Nat} : (nI (encO (s_s S k)) ≤ 0) ↔ s_s S k = none := by
  cases hs : s_s S k with
  | none => simp [encO, nI_0]
  | some h =>
    obtain ⟨o, ho⟩ := hI.2.2.2.2.2.1 k h hs
    have b := hI.hd ho
    have := nI_nle (n := h + 1) (by omega) (by omega)
    simp [encO, this]
set_option maxHeartbeats 4000000 in
set_option maxRecDepth 100000 in
theorem c_misPlace (l : Launch) {G : Gt} {ws : va_W} (sz : Nat) (pl : Int32) : Met l yX6_isPlace wsX6_isPlace ({ frames := 0, cells := 0, slots := 0, locals := 0 } : Room) (Pw G [.int pl] ws sz) (vp_Si (fun r : Int32 => r = if pl < 0 then 0 else if 400 ≤ pl then 0 else 1)) 0 0 (fun _ => False) := by
  refine Met_pw (cc := cX6_isPlace) (maxL := 1) (ret := (some .boolean)) (by decide) rfl (Nat.le_of_ble_eq_true rfl) ?_
  intro p e s m below meth c ls hsz S9 hr hlk hnm w hl
  subst hsz
  replace S9 : CallFix p m c cX6_isPlace 1 s _ wsX6_isPlace RX6 := S9
  have hx := S9.1
  have hb := S9.2.1
  have hown := S9.2.2.2.1
  have hts := S9.2.2.2.2
  replace hl : lv_has ls 1 [(0, .int pl)] := hl
  refine lv_iload_n hx hb dX6_isPlace_0 rfl (lv_at hl 0 rfl) ?_
  refine lv_if_lt (tgt := 15) hx hb dX6_isPlace_1 (by decide) (fun c_1 => ?_) (fun c_1 => ?_)
  · refine lv_iconst (v := 0) hx hb dX6_isPlace_15 (by decide) ?_
    exact e_z S9 hr hlk (by first | exact Or.inl rfl | exact Or.inr rfl) (by simp [c_1]) dX6_isPlace_16
  · refine lv_iload_n hx hb dX6_isPlace_4 rfl (lv_at hl 0 rfl) ?_
    refine lv_sipush (v := 400) hx hb dX6_isPlace_5 (by decide) ?_
    refine lv_icmp_ge (tgt := 15) hx hb dX6_isPlace_8 (by decide) (fun c_8 => ?_) (fun c_8 => ?_)
    · refine lv_iconst (v := 0) hx hb dX6_isPlace_15 (by decide) ?_
      exact e_z S9 hr hlk (by first | exact Or.inl rfl | exact Or.inr rfl) (by simp [c_1, c_8]) dX6_isPlace_16
    · refine lv_iconst (v := 1) hx hb dX6_isPlace_11 (by decide) ?_
      refine lv_goto (tgt := 16) hx hb dX6_isPlace_12 (by decide) ?_
      exact e_z S9 hr hlk (by first | exact Or.inl rfl | exact Or.inr rfl) (by simp [c_1, c_8]) dX6_isPlace_16

set_option maxHeartbeats 4000000 in
set_option maxRecDepth 100000 in
theorem c_min (l : Launch) {G : Gt} {ws : va_W} (sz : Nat) {x ha at_ li : Nat} {S : St} (hR : RpM G x ha at_ li S ws) (pl : Int32) : Met l yX6_in wsX6_in ({ frames := 1, cells := 0, slots := 0, locals := 20 } : Room) (Pw G [.ref x, .int pl] ws sz) (vp_Si (fun r : Int32 => r = hM (itm S pl))) 0 0 (fun _ => False) := by
  refine Met_pw (cc := cX6_in) (maxL := 2) (ret := (some .int)) (by decide) rfl (Nat.le_of_ble_eq_true rfl) ?_
  intro p e s m below meth c ls hsz S9 hr hlk hnm w hl
  subst hsz
  replace S9 : CallFix p m c cX6_in 2 s _ wsX6_in RX6 := S9
  have hx := S9.1
  have hb := S9.2.1
  have hown := S9.2.2.2.1
  have hts := S9.2.2.2.2
  replace hl : lv_has ls 2 [(0, .ref x), (1, .int pl)] := hl
  obtain ⟨hf, af, m1, m2, m3, m4, m5, m6⟩ := hR
  refine lv_iload_n hx hb dX6_in_0 rfl (lv_at hl 1 rfl) ?_
  refine k_si S9 w (c_misPlace l _ pl) (va_cwS 1 hts gX6_in_X6_isPlace rfl rfl rfl (by decide +kernel) ⟨Nat.le_of_ble_eq_true rfl, Nat.le_of_ble_eq_true rfl⟩) rfl hl.1 rfl (Nat.le_of_ble_eq_true rfl) dX6_in_1 ⟨Nat.le_of_ble_eq_true rfl, Nat.le_of_ble_eq_true rfl⟩ (fun v7 e7 => ?_)
  refine lv_if_eq (tgt := 18) hx hb dX6_in_4 (by decide) (fun c_4 => ?_) (fun c_4 => ?_)
  · refine lv_iconst (v := (-1)) hx hb dX6_in_18 (by decide) ?_
    exact e_i S9 hr hlk (by rw [e7] at c_4; unfold itm; by_cases h0 : pl < 0; (simp [h0, hM]); (by_cases h4 : (400 : Int32) ≤ pl; (simp [h0, h4, hM]); (simp [h0, h4] at c_4))) dX6_in_19
  · refine lv_aload_n hx hb dX6_in_7 rfl (lv_at hl 0 rfl) ?_
    refine r_get (ref := "SpanMoverModel") S9 w m1 rfl (by decide +kernel) 2 (by decide) (by decide +kernel) (Or.inl rfl) rfl dX6_in_8 ?_
    refine lv_iload_n hx hb dX6_in_11 rfl (lv_at hl 1 rfl) ?_
    refine r_iald S9 w m3 (in_of (fun h0 => c_4 (by rw [e7, if_pos h0])) (fun h4 => c_4 (by rw [e7]; by_cases h0 : pl < 0; exact if_pos h0; rw [if_neg h0]; exact if_pos h4)) (by decide)) dX6_in_12 ?_
    refine lv_topi (fun v1 ev1 => ?_)
    refine lv_iconst (v := 1) hx hb dX6_in_13 (by decide) ?_
    refine lv_isub hx hb dX6_in_14 ?_
    refine lv_topi (fun v2 ev2 => ?_)
    refine lv_goto (tgt := 19) hx hb dX6_in_15 (by decide) ?_
    exact e_i S9 hr hlk (by have h0 : ¬ pl < 0 := (fun h0 => c_4 (by rw [e7, if_pos h0])); have h4 : ¬ (400 : Int32) ≤ pl := (fun h4 => c_4 (by rw [e7, if_neg h0]; exact if_pos h4)); have hin := in_of (n := 400) h0 h4 (by decide); obtain ⟨j, hj, rfl⟩ := vp_in_of hin (by decide); rw [ev2, ev1, nI_clamp (by omega), m5 j hj, hM_enc]; unfold itm; rw [if_neg h0, if_neg h4, nI_clamp (by omega)]) dX6_in_19

set_option maxHeartbeats 4000000 in
set_option maxRecDepth 100000 in
theorem c_mkind (l : Launch) {G : Gt} {ws : va_W} (sz : Nat) {x ha at_ li : Nat} {S : St} (hR : RpM G x ha at_ li S ws) (hI : Inv S) {h : Nat} {o : Ob} (ho : s_o S h = some o) : Met l yX6_kind wsX6_kind ({ frames := 0, cells := 0, slots := 0, locals := 0 } : Room) (Pw G [.ref x, .int (nI h)] ws sz) (vp_Si (fun r : Int32 => r = nI (o_k o))) 0 0 (fun _ => False) := by
  refine Met_pw (cc := cX6_kind) (maxL := 2) (ret := (some .int)) (by decide) rfl (Nat.le_of_ble_eq_true rfl) ?_
  intro p e s m below meth c ls hsz S9 hr hlk hnm w hl
  subst hsz
  replace S9 : CallFix p m c cX6_kind 2 s _ wsX6_kind RX6 := S9
  have hx := S9.1
  have hb := S9.2.1
  have hown := S9.2.2.2.1
  have hts := S9.2.2.2.2
  replace hl : lv_has ls 2 [(0, .ref x), (1, .int (nI h))] := hl
  obtain ⟨hf, af, m1, m2, m3, m4, m5, m6⟩ := hR
  have bh := hI.hd ho
  have m7 := (m6.1 h o ho).1
  have k8 := (hI.ob ho).1
  have n2 := (hI.ob ho).2
  refine lv_aload_n hx hb dX6_kind_0 rfl (lv_at hl 0 rfl) ?_
  refine r_get (ref := "SpanMoverModel") S9 w m1 rfl (by decide +kernel) 0 (by decide) (by decide +kernel) (Or.inl rfl) rfl dX6_kind_1 ?_
  refine lv_iload_n hx hb dX6_kind_4 rfl (lv_at hl 1 rfl) ?_
  refine r_lald S9 w m2 (vp_in_nI bh (by decide)) dX6_kind_5 ?_
  refine lv_topl (fun v1 ev1 => ?_)
  refine lv_bipush (v := 32) hx hb dX6_kind_6 (by decide) ?_
  obtain ⟨v2, ev2⟩ : ∃ z : Int64, v1 >>> ((32 : Int32).toInt64 &&& 63) = z := ⟨_, rfl⟩
  refine lv_lshr (v := v2) hx hb dX6_kind_8 ev2 ?_
  obtain ⟨v3, ev3⟩ : ∃ z : Int32, Int64.toInt32 v2 = z := ⟨_, rfl⟩
  refine lv_l2i (v := v3) hx hb dX6_kind_9 ev3 ?_
  exact e_i S9 hr hlk (by rw [← ev3, ← ev2, ev1, nI_clamp (by omega), m7]; exact hd_kind k8 _) dX6_kind_10

set_option maxHeartbeats 4000000 in
set_option maxRecDepth 100000 in
theorem c_mlow (l : Launch) {G : Gt} {ws : va_W} (sz : Nat) {x ha at_ li : Nat} {S : St} (hR : RpM G x ha at_ li S ws) (hI : Inv S) {h : Nat} {o : Ob} (ho : s_o S h = some o) : Met l yX6_low wsX6_low ({ frames := 0, cells := 0, slots := 0, locals := 0 } : Room) (Pw G [.ref x, .int (nI h)] ws sz) (vp_Si (fun r : Int32 => r = loV o)) 0 0 (fun _ => False) := by
  refine Met_pw (cc := cX6_low) (maxL := 2) (ret := (some .int)) (by decide) rfl (Nat.le_of_ble_eq_true rfl) ?_
  intro p e s m below meth c ls hsz S9 hr hlk hnm w hl
  subst hsz
  replace S9 : CallFix p m c cX6_low 2 s _ wsX6_low RX6 := S9
  have hx := S9.1
  have hb := S9.2.1
  have hown := S9.2.2.2.1
  have hts := S9.2.2.2.2
  replace hl : lv_has ls 2 [(0, .ref x), (1, .int (nI h))] := hl
  obtain ⟨hf, af, m1, m2, m3, m4, m5, m6⟩ := hR
  have bh := hI.hd ho
  have m7 := (m6.1 h o ho).1
  have k8 := (hI.ob ho).1
  have n2 := (hI.ob ho).2
  refine lv_aload_n hx hb dX6_low_0 rfl (lv_at hl 0 rfl) ?_
  refine r_get (ref := "SpanMoverModel") S9 w m1 rfl (by decide +kernel) 0 (by decide) (by decide +kernel) (Or.inl rfl) rfl dX6_low_1 ?_
  refine lv_iload_n hx hb dX6_low_4 rfl (lv_at hl 1 rfl) ?_
  refine r_lald S9 w m2 (vp_in_nI bh (by decide)) dX6_low_5 ?_
  refine lv_topl (fun v1 ev1 => ?_)
  obtain ⟨v2, ev2⟩ : ∃ z : Int32, Int64.toInt32 v1 = z := ⟨_, rfl⟩
  refine lv_l2i (v := v2) hx hb dX6_low_6 ev2 ?_
  exact e_i S9 hr hlk (by rw [← ev2, ev1, nI_clamp (by omega), m7]; exact hd_low k8 _) dX6_low_7

set_option maxHeartbeats 4000000 in
set_option maxRecDepth 100000 in
theorem c_misThing (l : Launch) {G : Gt} {ws : va_W} (sz : Nat) {x ha at_ li : Nat} {S : St} (hR : RpM G x ha at_ li S ws) (hI : Inv S) {h : Nat} {o : Ob} (ho : s_o S h = some o) : Met l yX6_isThing wsX6_isThing ({ frames := 1, cells := 0, slots := 0, locals := 21 } : Room) (Pw G [.ref x, .int (nI h)] ws sz) (vp_Si (fun r : Int32 => r = if 7 ≤ o_k o then 1 else 0)) 0 0 (fun _ => False) := by
  refine Met_pw (cc := cX6_isThing) (maxL := 2) (ret := (some .boolean)) (by decide) rfl (Nat.le_of_ble_eq_true rfl) ?_
  intro p e s m below meth c ls hsz S9 hr hlk hnm w hl
  subst hsz
  replace S9 : CallFix p m c cX6_isThing 2 s _ wsX6_isThing RX6 := S9
  have hx := S9.1
  have hb := S9.2.1
  have hown := S9.2.2.2.1
  have hts := S9.2.2.2.2
  replace hl : lv_has ls 2 [(0, .ref x), (1, .int (nI h))] := hl
  obtain ⟨hf, af, hR1, -⟩ := id hR
  have k8 := (hI.ob ho).1
  refine lv_aload_n hx hb dX6_isThing_0 rfl (lv_at hl 0 rfl) ?_
  refine lv_iload_n hx hb dX6_isThing_1 rfl (lv_at hl 1 rfl) ?_
  refine k_vi S9 w (c_mkind l _ hR hI ho) hR1 rfl (cwV 1 hts gX6_isThing_X6_kind rfl rfl rfl (by decide +kernel) ⟨Nat.le_of_ble_eq_true rfl, Nat.le_of_ble_eq_true rfl⟩) rfl hl.1 rfl (Nat.le_of_ble_eq_true rfl) dX6_isThing_2 ⟨Nat.le_of_ble_eq_true rfl, Nat.le_of_ble_eq_true rfl⟩ (fun v7 ev7 => ?_)
  subst ev7
  refine lv_bipush (v := 7) hx hb dX6_isThing_5 (by decide) ?_
  refine lv_icmp_lt (tgt := 14) hx hb dX6_isThing_7 (by decide) (fun c_7 => ?_) (fun c_7 => ?_)
  · refine lv_iconst (v := 0) hx hb dX6_isThing_14 (by decide) ?_
    exact e_z S9 hr hlk (by first | exact Or.inl rfl | exact Or.inr rfl) (by have c := (nI_ltI (b := 7) (by omega) (by decide)).mp c_7; rw [if_neg (by omega)]) dX6_isThing_15
  · refine lv_iconst (v := 1) hx hb dX6_isThing_10 (by decide) ?_
    refine lv_goto (tgt := 15) hx hb dX6_isThing_11 (by decide) ?_
    exact e_z S9 hr hlk (by first | exact Or.inl rfl | exact Or.inr rfl) (by have c : ¬ o_k o < 7 := (fun q => c_7 ((nI_ltI (b := 7) (by omega) (by decide)).mpr q)); rw [if_pos (by omega)]) dX6_isThing_15

set_option maxHeartbeats 4000000 in
set_option maxRecDepth 100000 in
theorem c_misOfObjects (l : Launch) {G : Gt} {ws : va_W} (sz : Nat) {x ha at_ li : Nat} {S : St} (hR : RpM G x ha at_ li S ws) (hI : Inv S) {h : Nat} {o : Ob} (ho : s_o S h = some o) : Met l yX6_isOfObjects wsX6_isOfObjects ({ frames := 1, cells := 0, slots := 0, locals := 21 } : Room) (Pw G [.ref x, .int (nI h)] ws sz) (vp_Si (fun r : Int32 => r = if 4 ≤ o_k o ∧ o_k o ≤ 6 then 1 else 0)) 0 0 (fun _ => False) := by
  refine Met_pw (cc := cX6_isOfObjects) (maxL := 2) (ret := (some .boolean)) (by decide) rfl (Nat.le_of_ble_eq_true rfl) ?_
  intro p e s m below meth c ls hsz S9 hr hlk hnm w hl
  subst hsz
  replace S9 : CallFix p m c cX6_isOfObjects 2 s _ wsX6_isOfObjects RX6 := S9
  have hx := S9.1
  have hb := S9.2.1
  have hown := S9.2.2.2.1
  have hts := S9.2.2.2.2
  replace hl : lv_has ls 2 [(0, .ref x), (1, .int (nI h))] := hl
  obtain ⟨hf, af, hR1, -⟩ := id hR
  have k8 := (hI.ob ho).1
  refine lv_aload_n hx hb dX6_isOfObjects_0 rfl (lv_at hl 0 rfl) ?_
  refine lv_iload_n hx hb dX6_isOfObjects_1 rfl (lv_at hl 1 rfl) ?_
  refine k_vi S9 w (c_mkind l _ hR hI ho) hR1 rfl (cwV 1 hts gX6_isOfObjects_X6_kind rfl rfl rfl (by decide +kernel) ⟨Nat.le_of_ble_eq_true rfl, Nat.le_of_ble_eq_true rfl⟩) rfl hl.1 rfl (Nat.le_of_ble_eq_true rfl) dX6_isOfObjects_2 ⟨Nat.le_of_ble_eq_true rfl, Nat.le_of_ble_eq_true rfl⟩ (fun v7 ev7 => ?_)
  subst ev7
  refine lv_iconst (v := 4) hx hb dX6_isOfObjects_5 (by decide) ?_
  refine lv_icmp_lt (tgt := 23) hx hb dX6_isOfObjects_6 (by decide) (fun c_6 => ?_) (fun c_6 => ?_)
  · refine lv_iconst (v := 0) hx hb dX6_isOfObjects_23 (by decide) ?_
    exact e_z S9 hr hlk (by first | exact Or.inl rfl | exact Or.inr rfl) (by have c := (nI_ltI (b := 4) (by omega) (by decide)).mp c_6; rw [if_neg (by omega)]) dX6_isOfObjects_24
  · refine lv_aload_n hx hb dX6_isOfObjects_9 rfl (lv_at hl 0 rfl) ?_
    refine lv_iload_n hx hb dX6_isOfObjects_10 rfl (lv_at hl 1 rfl) ?_
    refine k_vi S9 w (c_mkind l _ hR hI ho) hR1 rfl (cwV 1 hts gX6_isOfObjects_X6_kind rfl rfl rfl (by decide +kernel) ⟨Nat.le_of_ble_eq_true rfl, Nat.le_of_ble_eq_true rfl⟩) rfl hl.1 rfl (Nat.le_of_ble_eq_true rfl) dX6_isOfObjects_11 ⟨Nat.le_of_ble_eq_true rfl, Nat.le_of_ble_eq_true rfl⟩ (fun v8 ev8 => ?_)
    subst ev8
    refine lv_bipush (v := 6) hx hb dX6_isOfObjects_14 (by decide) ?_
    refine lv_icmp_gt (tgt := 23) hx hb dX6_isOfObjects_16 (by decide) (fun c_16 => ?_) (fun c_16 => ?_)
    · refine lv_iconst (v := 0) hx hb dX6_isOfObjects_23 (by decide) ?_
      exact e_z S9 hr hlk (by first | exact Or.inl rfl | exact Or.inr rfl) (by have c2 := (nI_ltI (a := 6) (by decide) (by omega)).mp c_16; rw [if_neg (by omega)]) dX6_isOfObjects_24
    · refine lv_iconst (v := 1) hx hb dX6_isOfObjects_19 (by decide) ?_
      refine lv_goto (tgt := 24) hx hb dX6_isOfObjects_20 (by decide) ?_
      exact e_z S9 hr hlk (by first | exact Or.inl rfl | exact Or.inr rfl) (by have c : ¬ o_k o < 4 := (fun q => c_6 ((nI_ltI (b := 4) (by omega) (by decide)).mpr q)); have c2 : ¬ 6 < o_k o := (fun q => c_16 ((nI_ltI (a := 6) (by decide) (by omega)).mpr q)); rw [if_pos (by omega)]) dX6_isOfObjects_24

set_option maxHeartbeats 4000000 in
set_option maxRecDepth 100000 in
theorem c_misElement (l : Launch) {G : Gt} {ws : va_W} (sz : Nat) {x ha at_ li : Nat} {S : St} (hR : RpM G x ha at_ li S ws) (hI : Inv S) {h : Nat} {o : Ob} (ho : s_o S h = some o) (hk6 : o_k o ≤ 6) (i : Int32) : Met l yX6_isElement wsX6_isElement ({ frames := 1, cells := 0, slots := 0, locals := 21 } : Room) (Pw G [.ref x, .int (nI h), .int i] ws sz) (vp_Si (fun r : Int32 => r = if inE (o_n o) i then 1 else 0)) 0 0 (fun _ => False) := by
  refine Met_pw (cc := cX6_isElement) (maxL := 3) (ret := (some .boolean)) (by decide) rfl (Nat.le_of_ble_eq_true rfl) ?_
  intro p e s m below meth c ls hsz S9 hr hlk hnm w hl
  subst hsz
  replace S9 : CallFix p m c cX6_isElement 3 s _ wsX6_isElement RX6 := S9
  have hx := S9.1
  have hb := S9.2.1
  have hown := S9.2.2.2.1
  have hts := S9.2.2.2.2
  replace hl : lv_has ls 3 [(0, .ref x), (1, .int (nI h)), (2, .int i)] := hl
  obtain ⟨hf, af, hR1, -⟩ := id hR
  have k8 := (hI.ob ho).1
  refine lv_iload_n hx hb dX6_isElement_0 rfl (lv_at hl 2 rfl) ?_
  refine lv_if_lt (tgt := 17) hx hb dX6_isElement_1 (by decide) (fun c_1 => ?_) (fun c_1 => ?_)
  · refine lv_iconst (v := 0) hx hb dX6_isElement_17 (by decide) ?_
    exact e_z S9 hr hlk (by first | exact Or.inl rfl | exact Or.inr rfl) (by simp [inE, c_1]) dX6_isElement_18
  · refine lv_iload_n hx hb dX6_isElement_4 rfl (lv_at hl 2 rfl) ?_
    refine lv_aload_n hx hb dX6_isElement_5 rfl (lv_at hl 0 rfl) ?_
    refine lv_iload_n hx hb dX6_isElement_6 rfl (lv_at hl 1 rfl) ?_
    refine k_vi S9 w (c_mlow l _ hR hI ho) hR1 rfl (cwV 1 hts gX6_isElement_X6_low rfl rfl rfl (by decide +kernel) ⟨Nat.le_of_ble_eq_true rfl, Nat.le_of_ble_eq_true rfl⟩) rfl hl.1 rfl (Nat.le_of_ble_eq_true rfl) dX6_isElement_7 ⟨Nat.le_of_ble_eq_true rfl, Nat.le_of_ble_eq_true rfl⟩ (fun v7 ev7 => ?_)
    rw [loV_row hk6] at ev7
    subst ev7
    refine lv_icmp_ge (tgt := 17) hx hb dX6_isElement_10 (by decide) (fun c_10 => ?_) (fun c_10 => ?_)
    · refine lv_iconst (v := 0) hx hb dX6_isElement_17 (by decide) ?_
      exact e_z S9 hr hlk (by first | exact Or.inl rfl | exact Or.inr rfl) (by simp [inE, c_1, c_10]) dX6_isElement_18
    · refine lv_iconst (v := 1) hx hb dX6_isElement_13 (by decide) ?_
      refine lv_goto (tgt := 18) hx hb dX6_isElement_14 (by decide) ?_
      exact e_z S9 hr hlk (by first | exact Or.inl rfl | exact Or.inr rfl) (by simp [inE, c_1, c_10]) dX6_isElement_18

set_option maxHeartbeats 4000000 in
set_option maxRecDepth 100000 in
theorem c_mobject (l : Launch) {G : Gt} {ws : va_W} (sz : Nat) {x ha at_ li : Nat} {S : St} (hR : RpM G x ha at_ li S ws) (hI : Inv S) {h : Nat} {o : Ob} (ho : s_o S h = some o) (hk4 : 4 ≤ o_k o) (hk6 : o_k o ≤ 6) (i : Int32) (i' : Nat) (hi : i = nI i') (hi' : i' < o_n o) : Met l yX6_object wsX6_object ({ frames := 0, cells := 0, slots := 0, locals := 0 } : Room) (Pw G [.ref x, .int (nI h), .int i] ws sz) (vp_Si (fun r : Int32 => r = hM (o_e o i'))) 0 0 (fun _ => False) := by
  refine Met_pw (cc := cX6_object) (maxL := 3) (ret := (some .int)) (by decide) rfl (Nat.le_of_ble_eq_true rfl) ?_
  intro p e s m below meth c ls hsz S9 hr hlk hnm w hl
  subst hsz
  replace S9 : CallFix p m c cX6_object 3 s _ wsX6_object RX6 := S9
  have hx := S9.1
  have hb := S9.2.1
  have hown := S9.2.2.2.1
  have hts := S9.2.2.2.2
  replace hl : lv_has ls 3 [(0, .ref x), (1, .int (nI h)), (2, .int i)] := hl
  obtain ⟨hf, af, m1, m2, m3, m4, m5, m6⟩ := hR
  have bh := hI.hd ho
  have m7 := (m6.1 h o ho).1
  have k8 := (hI.ob ho).1
  have n2 := (hI.ob ho).2
  have bs := (hI.2.2.2.1 h o ho).2.2
  have bu := hI.1
  refine lv_aload_n hx hb dX6_object_0 rfl (lv_at hl 0 rfl) ?_
  refine r_get (ref := "SpanMoverModel") S9 w m1 rfl (by decide +kernel) 0 (by decide) (by decide +kernel) (Or.inl rfl) rfl dX6_object_1 ?_
  refine lv_iload_n hx hb dX6_object_4 rfl (lv_at hl 1 rfl) ?_
  refine lv_iconst (v := 1) hx hb dX6_object_5 (by decide) ?_
  refine lv_iadd hx hb dX6_object_6 ?_
  refine lv_topi (fun v1 ev1 => ?_)
  refine lv_iload_n hx hb dX6_object_7 rfl (lv_at hl 2 rfl) ?_
  refine lv_iadd hx hb dX6_object_8 ?_
  refine lv_topi (fun v2 ev2 => ?_)
  refine r_lald S9 w m2 (by rw [show v2 = nI (h + 1 + i') from by rw [ev2, ev1, hi]; exact (congrArg (· + nI i') (nI_1 h)).trans (nI_add (h + 1) i')]; exact vp_in_nI (by omega) (by decide)) dX6_object_9 ?_
  refine lv_topl (fun v3 ev3 => ?_)
  obtain ⟨v4, ev4⟩ : ∃ z : Int32, Int64.toInt32 v3 = z := ⟨_, rfl⟩
  refine lv_l2i (v := v4) hx hb dX6_object_10 ev4 ?_
  refine lv_iconst (v := 1) hx hb dX6_object_11 (by decide) ?_
  refine lv_isub hx hb dX6_object_12 ?_
  refine lv_topi (fun v5 ev5 => ?_)
  exact e_i S9 hr hlk (by rw [ev5, ← ev4, ev3, cl_nI (show v2 = nI (h + 1 + i') from by rw [ev2, ev1, hi]; exact (congrArg (· + nI i') (nI_1 h)).trans (nI_add (h + 1) i')) (by omega), (m6.1 h o ho).2.2 hk4 hk6 i' hi', lN_i, hM_enc]) dX6_object_13

set_option maxHeartbeats 4000000 in
set_option maxRecDepth 100000 in
theorem c_mlowestEmpty (l : Launch) {G : Gt} {ws : va_W} (sz : Nat) {x ha at_ li : Nat} {S : St} (hR : RpM G x ha at_ li S ws) (hI : Inv S) : Met l yX6_lowestEmpty wsX6_lowestEmpty ({ frames := 0, cells := 0, slots := 0, locals := 0 } : Room) (Pw G [.ref x] ws sz) (vp_Si (fun r : Int32 => r = pI (lowE S))) 0 0 (fun _ => False) := by
  refine Met_pw (cc := cX6_lowestEmpty) (maxL := 2) (ret := (some .int)) (by decide) rfl (Nat.le_of_ble_eq_true rfl) ?_
  intro p e s m below meth c ls hsz S9 hr hlk hnm w hl
  subst hsz
  replace S9 : CallFix p m c cX6_lowestEmpty 2 s _ wsX6_lowestEmpty RX6 := S9
  have hx := S9.1
  have hb := S9.2.1
  have hown := S9.2.2.2.1
  have hts := S9.2.2.2.2
  replace hl : lv_has ls 2 [(0, .ref x)] := hl
  obtain ⟨hf, af, m1, m2, m3, m4, m5, m6⟩ := hR
  refine lv_iconst (v := 0) hx hb dX6_lowestEmpty_0 (by decide) ?_
  refine lv_istore_n (lv' := [(1, .int 0), (0, .ref x)]) hx hb dX6_lowestEmpty_1 rfl hl (by decide) rfl (fun ls hl => ?_)
  obtain ⟨k, hk, hv, hE⟩ : ∃ k : Nat, k ≤ 400 ∧ (0 : Int32) = nI k ∧ lowE S = low0 (s_s S) (400 - k) k := ⟨0, by omega, rfl, rfl⟩
  generalize (0 : Int32) = v at hl hv
  obtain ⟨n, hn⟩ : ∃ n, 400 - k < n := ⟨_, Nat.lt_succ_self _⟩
  induction n generalizing k v ls with
  | zero => exact absurd hn (Nat.not_lt_zero _)
  | succ n ih =>
    refine lv_iload_n hx hb dX6_lowestEmpty_2 rfl (lv_at hl 0 rfl) ?_
    refine lv_sipush (v := 400) hx hb dX6_lowestEmpty_3 (by decide) ?_
    refine lv_icmp_ge (tgt := 24) hx hb dX6_lowestEmpty_6 (by decide) (fun c_6 => ?_) (fun c_6 => ?_)
    · refine lv_iload_n hx hb dX6_lowestEmpty_24 rfl (lv_at hl 0 rfl) ?_
      refine lv_sipush (v := 400) hx hb dX6_lowestEmpty_25 (by decide) ?_
      refine lv_icmp_ge (tgt := 35) hx hb dX6_lowestEmpty_28 (by decide) (fun c_28 => ?_) (fun c_28 => ?_)
      · refine lv_iconst (v := (-1)) hx hb dX6_lowestEmpty_35 (by decide) ?_
        exact e_i S9 hr hlk (by have h4 := ge_nI (n := 400) hv hk (by decide) c_28; subst h4; rw [hE]; rfl) dX6_lowestEmpty_36
      · refine lv_iload_n hx hb dX6_lowestEmpty_31 rfl (lv_at hl 0 rfl) ?_
        refine lv_goto (tgt := 36) hx hb dX6_lowestEmpty_32 (by decide) ?_
        exact e_i S9 hr hlk (by exact absurd c_6 c_28) dX6_lowestEmpty_36
    · refine lv_aload_n hx hb dX6_lowestEmpty_9 rfl (lv_at hl 1 rfl) ?_
      refine r_get (ref := "SpanMoverModel") S9 w m1 rfl (by decide +kernel) 2 (by decide) (by decide +kernel) (Or.inl rfl) rfl dX6_lowestEmpty_10 ?_
      refine lv_iload_n hx hb dX6_lowestEmpty_13 rfl (lv_at hl 0 rfl) ?_
      refine r_iald S9 w m3 (in_nI (n := 400) hv hk (by decide) c_6) dX6_lowestEmpty_14 ?_
      refine lv_topi (fun v1 ev1 => ?_)
      refine lv_if_le (tgt := 24) hx hb dX6_lowestEmpty_15 (by decide) (fun c_15 => ?_) (fun c_15 => ?_)
      · refine lv_iload_n hx hb dX6_lowestEmpty_24 rfl (lv_at hl 0 rfl) ?_
        refine lv_sipush (v := 400) hx hb dX6_lowestEmpty_25 (by decide) ?_
        refine lv_icmp_ge (tgt := 35) hx hb dX6_lowestEmpty_28 (by decide) (fun c_28 => ?_) (fun c_28 => ?_)
        · refine lv_iconst (v := (-1)) hx hb dX6_lowestEmpty_35 (by decide) ?_
          exact e_i S9 hr hlk (by exact absurd c_28 c_6) dX6_lowestEmpty_36
        · refine lv_iload_n hx hb dX6_lowestEmpty_31 rfl (lv_at hl 0 rfl) ?_
          refine lv_goto (tgt := 36) hx hb dX6_lowestEmpty_32 (by decide) ?_
          exact e_i S9 hr hlk (by have hk4 := nge_nI (n := 400) hv hk (by decide) c_6; rw [ev1, cl_nI hv (by omega), m5 k hk4, sh_le0 hI] at c_15; rw [hE, low_hit hk4 c_15]; exact hv) dX6_lowestEmpty_36
      · obtain ⟨v2, ev2⟩ : ∃ z : Int32, z = v + 1 := ⟨_, rfl⟩
        refine lv_iinc (v := v2) (lv' := [(1, .int v2), (0, .ref x)]) hx hb dX6_lowestEmpty_18 hl (k := 0) rfl (by rw [ev2]; rfl) (by decide) rfl (fun ls hl => ?_)
        refine lv_goto (tgt := 2) hx hb dX6_lowestEmpty_21 (by decide) ?_
        have hk4 := nge_nI (n := 400) hv hk (by decide) c_6
        rw [ev1, cl_nI hv (by omega), m5 k hk4, sh_le0 hI] at c_15
        obtain ⟨y, hy⟩ : ∃ y, s_s S k = some y := by
          cases hs : s_s S k with
          | none => exact absurd hs c_15
          | some y => exact ⟨y, rfl⟩
        exact ih (ls := ls) (k := k + 1) (v := v2) (hk := by omega) (hv := by rw [ev2, hv]; exact nI_1 k) (hE := by rw [hE, low_miss hk4 hy]) (hl := hl) (hn := by omega)
