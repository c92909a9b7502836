theorem lt_succ {a n : Int32} (h : ¬ (2000 : Int32) < n) : a < n + 1 ↔ ¬ n < a := by
  have e2 : (2000 : Int32).toInt = 2000 := rfl
  have e1 : (1 : Int32).toInt = 1 := rfl
  have h1 := Int32.le_toInt n
  rw [ii_lt, e2] at h
  rw [ii_lt, ii_lt, Int32.toInt_add, e1, Int.bmod_def]
  split <;> omega
theorem HpM.new {S : St} (hI : Inv S) {hf : Nat → Int64} (m6 : HpM S hf) {o : Ob} {pl : Nat} {c : Int32} {hd : Int64} (hh : hd = hdW (nI (o_k o)) (loV o)) (hu6 : s_u S + 1 + o_n o ≤ 60000) (h0 : o_f o = fun _ => 0) (he : o_e o = fun _ => none) : HpM (s_new S pl o c) (vp_updL hf (s_u S) hd) := by
  obtain ⟨g1, g2⟩ := m6
  refine ⟨fun a oa ha => ?_, fun j hj hj6 => ?_⟩
  · by_cases hau : a = s_u S
    · subst hau
      have e : oa = o := by
        have := ha.symm.trans (va_up_eq (f := s_o S) (k := s_u S) (v := some o))
        cases this
        rfl
      subst e
      refine ⟨by rw [pk_uLs, hh]; rfl, fun z j hj => ?_, fun z z' j hj => ?_⟩
      · rw [pk_uLn (by omega), g2 _ (by omega) (by omega), h0]
      · rw [pk_uLn (by omega), g2 _ (by omega) (by omega), he]
        rfl
    · have ha0 : s_o S a = some oa := by rw [← ha]; exact (va_up_ne (s_o S) _ hau).symm
      have bs := (hI.2.2.2.1 a oa ha0).2.2
      obtain ⟨q1, q2, q3⟩ := g1 a oa ha0
      exact ⟨by rw [pk_uLn (by omega)]; exact q1, fun z j hj => by rw [pk_uLn (by omega)]; exact q2 z j hj, fun z z' j hj => by rw [pk_uLn (by omega)]; exact q3 z z' j hj⟩
  · have hj : s_u S + 1 + o_n o ≤ j := hj
    rw [pk_uLn (by omega)]
    exact g2 j (by omega) hj6
set_option maxHeartbeats 4000000 in
set_option maxRecDepth 100000 in
theorem c_mstand (l : Launch) {G : Gt} {ws : va_W} (sz : Nat) {x ha at_ li us : Nat} {sc : Nat → Int32} {hf : Nat → Int64} {af lf : Nat → Int32} (m1 : hp ws x (oM ha at_ li (nI us) sc)) (m2 : hp ws ha (aJ G 60000 hf)) (m3 : hp ws at_ (aI G 400 af)) (m4 : hp ws li (aI G 320 lf)) (hus : us < 60000) (p4 k : Nat) (hp4 : p4 < 400) (lo : Int32) : Met l yX6_stand wsX6_stand ({ frames := 0, cells := 0, slots := 0, locals := 0 } : Room) (Pw G [.ref x, .int (nI p4), .int (nI k), .int lo] ws sz) (va_Qi (fun (r : Int32) (u : va_W) => r = nI p4 ∧ hp u x (oM ha at_ li (nI (us + 1)) sc) ∧ hp u ha (aJ G 60000 (vp_updL hf us (hdW (nI k) lo))) ∧ hp u at_ (aI G 400 (upd af p4 (nI (us + 1)))) ∧ hp u li (aI G 320 lf)) (Bw G ws sz) (va_A ws sz)) 0 0 (va_A ws sz) := by
  refine Met_pw (cc := cX6_stand) (maxL := 4) (ret := (some .int)) (by decide) rfl (Nat.le_of_ble_eq_true rfl) ?_
  intro p e s m below meth c ls hsz S9 hr hlk hnm w hl
  subst hsz
  replace S9 : CallFix p m c cX6_stand 4 s _ wsX6_stand RX6 := S9
  have hx := S9.1
  have hb := S9.2.1
  have hown := S9.2.2.2.1
  have hts := S9.2.2.2.2
  replace hl : lv_has ls 4 [(0, .ref x), (1, .int (nI p4)), (2, .int (nI k)), (3, .int lo)] := hl
  refine lv_aload_n hx hb dX6_stand_0 rfl (lv_at hl 0 rfl) ?_
  refine r_get (ref := "SpanMoverModel") S9 w m1 rfl (by decide +kernel) 0 (by decide) (by decide +kernel) (Or.inl rfl) rfl dX6_stand_1 ?_
  refine lv_aload_n hx hb dX6_stand_4 rfl (lv_at hl 0 rfl) ?_
  refine r_get (ref := "SpanMoverModel") S9 w m1 rfl (by decide +kernel) 1 (by decide) (by decide +kernel) (Or.inl rfl) rfl dX6_stand_5 ?_
  refine lv_iload_n hx hb dX6_stand_8 rfl (lv_at hl 2 rfl) ?_
  obtain ⟨v1, ev1⟩ : ∃ z : Int64, Int32.toInt64 (nI k) = z := ⟨_, rfl⟩
  refine lv_i2l (v := v1) hx hb dX6_stand_9 ev1 ?_
  refine lv_bipush (v := 32) hx hb dX6_stand_10 (by decide) ?_
  obtain ⟨v2, ev2⟩ : ∃ z : Int64, v1 <<< ((32 : Int32).toInt64 &&& 63) = z := ⟨_, rfl⟩
  refine lv_lshl (v := v2) hx hb dX6_stand_12 ev2 ?_
  refine lv_iload_n hx hb dX6_stand_13 rfl (lv_at hl 3 rfl) ?_
  obtain ⟨v3, ev3⟩ : ∃ z : Int64, Int32.toInt64 lo = z := ⟨_, rfl⟩
  refine lv_i2l (v := v3) hx hb dX6_stand_14 ev3 ?_
  refine lv_ldc2 (v := 4294967295) hx hb hown (hts (.constantLong RX6 36 (4294967295)) (by decide +kernel)) dX6_stand_15 ?_
  refine lv_land hx hb dX6_stand_18 ?_
  refine lv_topl (fun v4 ev4 => ?_)
  refine lv_lor hx hb dX6_stand_19 ?_
  refine lv_topl (fun v5 ev5 => ?_)
  refine r_last S9 w m2 (vp_in_nI hus (by decide)) dX6_stand_20 (fun wsA HA lcA uA wA => ?_)
  rw [nI_clamp (by omega)] at uA
  rw [show v5 = hdW (nI k) lo from by subst_vars; rfl] at uA
  have nnA := mne w.2.1 m1 m2 m3 m4
  have m1A := uA.keep nnA.1.1 m1
  have m2A : hp wsA ha (aJ G 60000 (vp_updL hf us (hdW (nI k) lo))) := uA.1
  have m3A := uA.keep nnA.2.1.symm m3
  have m4A := uA.keep nnA.2.2.1.symm m4
  refine lv_aload_n hx hb dX6_stand_21 rfl (lv_at hl 0 rfl) ?_
  refine r_get (ref := "SpanMoverModel") S9 wA m1A rfl (by decide +kernel) 2 (by decide) (by decide +kernel) (Or.inl rfl) rfl dX6_stand_22 ?_
  refine lv_iload_n hx hb dX6_stand_25 rfl (lv_at hl 1 rfl) ?_
  refine lv_aload_n hx hb dX6_stand_26 rfl (lv_at hl 0 rfl) ?_
  refine r_get (ref := "SpanMoverModel") S9 wA m1A rfl (by decide +kernel) 1 (by decide) (by decide +kernel) (Or.inl rfl) rfl dX6_stand_27 ?_
  refine lv_iconst (v := 1) hx hb dX6_stand_30 (by decide) ?_
  refine lv_iadd hx hb dX6_stand_31 ?_
  refine lv_topi (fun v6 ev6 => ?_)
  refine r_iast S9 wA m3A (vp_in_nI hp4 (by decide)) dX6_stand_32 (fun wsB HB lcB uB wB => ?_)
  rw [nI_clamp (by omega), show v6 = nI (us + 1) from by rw [ev6]; exact nI_1 us] at uB
  have nnB := mne wA.2.1 m1A m2A m3A m4A
  have m1B := uB.keep nnB.1.2.1 m1A
  have m2B := uB.keep nnB.2.1 m2A
  have m3B : hp wsB at_ (aI G 400 (upd af p4 (nI (us + 1)))) := uB.1
  have m4B := uB.keep nnB.2.2.2.symm m4A
  refine lv_aload_n hx hb dX6_stand_33 rfl (lv_at hl 0 rfl) ?_
  refine lv_dup hx hb dX6_stand_34 rfl ?_
  refine r_get (ref := "SpanMoverModel") S9 wB m1B rfl (by decide +kernel) 1 (by decide) (by decide +kernel) (Or.inl rfl) rfl dX6_stand_35 ?_
  refine lv_iconst (v := 1) hx hb dX6_stand_38 (by decide) ?_
  refine lv_iadd hx hb dX6_stand_39 ?_
  refine lv_topi (fun v7 ev7 => ?_)
  refine r_put (ref := "SpanMoverModel") S9 wB m1B rfl (by decide +kernel) tyX6_ok nmX6 1 (by decide) (by decide +kernel) (Or.inl rfl) rfl rfl rfl (Nat.le_of_ble_eq_true rfl) dX6_stand_40 (fun wsC HC lcC uC wC => ?_)
  rw [show v7 = nI (us + 1) from by rw [ev7]; exact nI_1 us] at uC
  have nnC := mne wB.2.1 m1B m2B m3B m4B
  have m1C : hp wsC x (.inr (4, [.ref ha, .int (nI (us + 1)), .ref at_, .ref li, .int (sc 0), .int (sc 2), .int (sc 4), .int (sc 3), .int (sc 5), .int (sc 6)])) := uC.1
  have m2C := uC.keep nnC.1.1.symm m2B
  have m3C := uC.keep nnC.1.2.1.symm m3B
  have m4C := uC.keep nnC.1.2.2.symm m4B
  refine lv_iload_n hx hb dX6_stand_43 rfl (lv_at hl 1 rfl) ?_
  exact ew_i S9 hr hlk wC (⟨rfl, m1C, m2C, m3C, m4C⟩) dX6_stand_44 (by decide) (by decide)

set_option maxHeartbeats 4000000 in
set_option maxRecDepth 100000 in
theorem c_mthing (l : Launch) {G : Gt} {ws : va_W} (sz : Nat) {x ha at_ li : Nat} {S : St} (hR : RpM G x ha at_ li S ws) (hI : Inv S) (k : Nat) (hk : 7 ≤ k) (hk8 : k ≤ 8) (v : Int32) : Met l yX6_thing wsX6_thing ({ frames := 1, cells := 0, slots := 0, locals := 23 } : Room) (Pw G [.ref x, .int (nI k), .int v] ws sz) (va_Qi (fun (r : Int32) (u : va_W) => r = (sp_thing S k v).1 ∧ RpM G x ha at_ li (sp_thing S k v).2 u) (Bw G ws sz) (va_A ws sz)) 0 0 (va_A ws sz) := by
  refine Met_pw (cc := cX6_thing) (maxL := 4) (ret := (some .int)) (by decide) rfl (Nat.le_of_ble_eq_true rfl) ?_
  intro p e s m below meth c ls hsz S9 hr hlk hnm w hl
  subst hsz
  replace S9 : CallFix p m c cX6_thing 4 s _ wsX6_thing RX6 := S9
  have hx := S9.1
  have hb := S9.2.1
  have hown := S9.2.2.2.1
  have hts := S9.2.2.2.2
  replace hl : lv_has ls 4 [(0, .ref x), (1, .int (nI k)), (2, .int v)] := hl
  obtain ⟨hf, af, m1, m2, m3, m4, m5, m6⟩ := id hR
  refine lv_aload_n hx hb dX6_thing_0 rfl (lv_at hl 0 rfl) ?_
  refine k_vi S9 w (c_mlowestEmpty l _ hR hI) m1 rfl (cwV 0 hts gX6_thing_X6_lowestEmpty rfl rfl rfl (by decide +kernel) ⟨Nat.le_of_ble_eq_true rfl, Nat.le_of_ble_eq_true rfl⟩) rfl hl.1 rfl (Nat.le_of_ble_eq_true rfl) dX6_thing_1 ⟨Nat.le_of_ble_eq_true rfl, Nat.le_of_ble_eq_true rfl⟩ (fun r1 er1 => ?_)
  cases hq : lowE S with
  | none =>
    rw [hq] at er1
    replace er1 : r1 = (-1) := er1
    subst er1
    refine lv_istore_n (lv' := [(3, .int (-1)), (0, .ref x), (1, .int (nI k)), (2, .int v)]) hx hb dX6_thing_4 rfl hl (by decide) rfl (fun ls hl => ?_)
    refine lv_iload_n hx hb dX6_thing_5 rfl (lv_at hl 0 rfl) ?_
    refine lv_if_lt (tgt := 18) hx hb dX6_thing_6 (by decide) (fun c_6 => ?_) (fun c_6 => absurd c_6 (by decide))
    refine lv_bipush (v := (-2)) hx hb dX6_thing_18 (by decide) ?_
    exact ew_i S9 hr hlk w (by rw [show sp_thing S k v = (-2, S) from by simp only [sp_thing, hq]]; exact ⟨rfl, hR⟩) dX6_thing_20 (by decide) (by decide)
  | some p4 =>
    rw [hq] at er1
    replace er1 : r1 = nI p4 := er1
    subst er1
    have hp5 := lowE_lt hq
    refine lv_istore_n (lv' := [(3, .int (nI p4)), (0, .ref x), (1, .int (nI k)), (2, .int v)]) hx hb dX6_thing_4 rfl hl (by decide) rfl (fun ls hl => ?_)
    refine lv_iload_n hx hb dX6_thing_5 rfl (lv_at hl 0 rfl) ?_
    refine lv_if_lt (tgt := 18) hx hb dX6_thing_6 (by decide) (fun c_6 => absurd c_6 (nI_pos (by omega))) (fun c_6 => ?_)
    refine lv_aload_n hx hb dX6_thing_9 rfl (lv_at hl 1 rfl) ?_
    refine r_get (ref := "SpanMoverModel") S9 w m1 rfl (by decide +kernel) 1 (by decide) (by decide +kernel) (Or.inl rfl) rfl dX6_thing_10 ?_
    refine lv_ldc (v := 60000) hx hb hown (hts (.constant RX6 7 (60000)) (by decide +kernel)) dX6_thing_13 ?_
    refine lv_icmp_ne (tgt := 21) hx hb dX6_thing_15 (by decide) (fun c_15 => ?_) (fun c_15 => ?_)
    · refine lv_aload_n hx hb dX6_thing_21 rfl (lv_at hl 1 rfl) ?_
      refine lv_iload_n hx hb dX6_thing_22 rfl (lv_at hl 0 rfl) ?_
      refine lv_iload_n hx hb dX6_thing_23 rfl (lv_at hl 2 rfl) ?_
      refine lv_iload_n hx hb dX6_thing_24 rfl (lv_at hl 3 rfl) ?_
      have bu : s_u S < 60000 := by
        have := hI.1
        have : ¬ s_u S = 60000 := fun q => c_15 (by rw [q]; rfl)
        omega
      refine kw_vi S9 w (c_mstand l _ m1 m2 m3 m4 bu p4 k hp5.1 v) m1 rfl (cwV 3 hts gX6_thing_X6_stand rfl rfl rfl (by decide +kernel) ⟨Nat.le_of_ble_eq_true rfl, Nat.le_of_ble_eq_true rfl⟩) rfl hl.1 rfl (Nat.le_of_ble_eq_true rfl) dX6_thing_25 ⟨Nat.le_of_ble_eq_true rfl, Nat.le_of_ble_eq_true rfl⟩ (fun v12 u12 H12 lc12 p12 w12 => ?_)
      obtain ⟨g0, g1, g2, g3, g4⟩ := p12
      have hR8 : RpM G x ha at_ li (s_new S p4 (k, 0, v, fun _ => 0, fun _ => none) (s_c S 1 - 1)) u12 := ⟨_, _, g1, g2, g3, g4, (fun z hz => (Decidable.em (z = p4)).elim (fun hz4 => by subst hz4; rw [pk_us]; show nI (s_u S + 1) = nI (encO (va_up (s_s S) z (some (s_u S)) z)); rw [va_up_self]; rfl) (fun hz4 => by rw [pk_un hz4]; show af z = nI (encO (va_up (s_s S) p4 (some (s_u S)) z)); rw [va_up_ne _ _ hz4]; exact m5 z hz)), HpM.new hI m6 (o := (k, 0, v, fun _ => 0, fun _ => none)) (by rw [show loV (k, 0, v, (fun _ => 0 : Nat → Int64), (fun _ => none : Nat → Option Nat)) = v from loV_thg hk]; rfl) (show s_u S + 1 + 0 ≤ 60000 by omega) rfl rfl⟩
      exact ew_i S9 hr hlk w12 (by have hlt : ¬ s_c S 1 < 1 := (by rw [hI.2.1]; exact nI_nlt (b := 1) (by omega) (by omega)); rw [show sp_thing S k v = (v12, s_new S p4 (k, 0, v, fun _ => 0, fun _ => none) (s_c S 1 - 1)) from by rw [g0]; simp only [sp_thing, hq]; rw [if_neg hlt]]; exact ⟨rfl, hR8⟩) dX6_thing_28 (by decide) (by decide)
    · refine lv_bipush (v := (-2)) hx hb dX6_thing_18 (by decide) ?_
      exact ew_i S9 hr hlk w (by have hu : s_u S = 60000 := (nI_eq (b := 60000) (by have := hI.1; omega) (by decide)).mp c_15; have hlt : s_c S 1 < 1 := (by rw [hI.2.1, hu]; decide); rw [show sp_thing S k v = (-2, S) from by simp only [sp_thing, hq]; rw [if_pos hlt]]; exact ⟨rfl, hR⟩) dX6_thing_20 (by decide) (by decide)

set_option maxHeartbeats 4000000 in
set_option maxRecDepth 100000 in
theorem c_mmark (l : Launch) {G : Gt} {ws : va_W} (sz : Nat) {x ha at_ li : Nat} {S : St} (hR : RpM G x ha at_ li S ws) (hI : Inv S) (v : Int32) : Met l yX6_mark wsX6_mark ({ frames := 2, cells := 0, slots := 0, locals := 46 } : Room) (Pw G [.ref x, .int v] ws sz) (va_Qi (fun (r : Int32) (u : va_W) => r = (sp_thing S 7 v).1 ∧ RpM G x ha at_ li (sp_thing S 7 v).2 u) (Bw G ws sz) (va_A ws sz)) 0 0 (va_A ws sz) := by
  refine Met_pw (cc := cX6_mark) (maxL := 2) (ret := (some .int)) (by decide) rfl (Nat.le_of_ble_eq_true rfl) ?_
  intro p e s m below meth c ls hsz S9 hr hlk hnm w hl
  subst hsz
  replace S9 : CallFix p m c cX6_mark 2 s _ wsX6_mark RX6 := S9
  have hx := S9.1
  have hb := S9.2.1
  have hown := S9.2.2.2.1
  have hts := S9.2.2.2.2
  replace hl : lv_has ls 2 [(0, .ref x), (1, .int v)] := hl
  obtain ⟨hf, af, hR1, -⟩ := id hR
  refine lv_aload_n hx hb dX6_mark_0 rfl (lv_at hl 0 rfl) ?_
  refine lv_bipush (v := 7) hx hb dX6_mark_1 (by decide) ?_
  refine lv_iload_n hx hb dX6_mark_3 rfl (lv_at hl 1 rfl) ?_
  refine kw_vi S9 w (c_mthing l _ hR hI 7 (by decide) (by decide) v) hR1 rfl (cwV 2 hts gX6_mark_X6_thing rfl rfl rfl (by decide +kernel) ⟨Nat.le_of_ble_eq_true rfl, Nat.le_of_ble_eq_true rfl⟩) rfl hl.1 rfl (Nat.le_of_ble_eq_true rfl) dX6_mark_4 ⟨Nat.le_of_ble_eq_true rfl, Nat.le_of_ble_eq_true rfl⟩ (fun v12 u12 H12 lc12 p12 w12 => ?_)
  exact ew_i S9 hr hlk w12 (p12) dX6_mark_7 (by decide) (by decide)

set_option maxHeartbeats 4000000 in
set_option maxRecDepth 100000 in
theorem c_mseal (l : Launch) {G : Gt} {ws : va_W} (sz : Nat) {x ha at_ li : Nat} {S : St} (hR : RpM G x ha at_ li S ws) (hI : Inv S) (v : Int32) : Met l yX6_seal wsX6_seal ({ frames := 2, cells := 0, slots := 0, locals := 46 } : Room) (Pw G [.ref x, .int v] ws sz) (va_Qi (fun (r : Int32) (u : va_W) => r = (sp_thing S 8 v).1 ∧ RpM G x ha at_ li (sp_thing S 8 v).2 u) (Bw G ws sz) (va_A ws sz)) 0 0 (va_A ws sz) := by
  refine Met_pw (cc := cX6_seal) (maxL := 2) (ret := (some .int)) (by decide) rfl (Nat.le_of_ble_eq_true rfl) ?_
  intro p e s m below meth c ls hsz S9 hr hlk hnm w hl
  subst hsz
  replace S9 : CallFix p m c cX6_seal 2 s _ wsX6_seal RX6 := S9
  have hx := S9.1
  have hb := S9.2.1
  have hown := S9.2.2.2.1
  have hts := S9.2.2.2.2
  replace hl : lv_has ls 2 [(0, .ref x), (1, .int v)] := hl
  obtain ⟨hf, af, hR1, -⟩ := id hR
  refine lv_aload_n hx hb dX6_seal_0 rfl (lv_at hl 0 rfl) ?_
  refine lv_bipush (v := 8) hx hb dX6_seal_1 (by decide) ?_
  refine lv_iload_n hx hb dX6_seal_3 rfl (lv_at hl 1 rfl) ?_
  refine kw_vi S9 w (c_mthing l _ hR hI 8 (by decide) (by decide) v) hR1 rfl (cwV 2 hts gX6_seal_X6_thing rfl rfl rfl (by decide +kernel) ⟨Nat.le_of_ble_eq_true rfl, Nat.le_of_ble_eq_true rfl⟩) rfl hl.1 rfl (Nat.le_of_ble_eq_true rfl) dX6_seal_4 ⟨Nat.le_of_ble_eq_true rfl, Nat.le_of_ble_eq_true rfl⟩ (fun v12 u12 H12 lc12 p12 w12 => ?_)
  exact ew_i S9 hr hlk w12 (p12) dX6_seal_7 (by decide) (by decide)

set_option maxHeartbeats 4000000 in
set_option maxRecDepth 100000 in
theorem c_mrow (l : Launch) {G : Gt} {ws : va_W} (sz : Nat) {x ha at_ li : Nat} {S : St} (hR : RpM G x ha at_ li S ws) (hI : Inv S) (k n : Int32) : Met l yX6_row wsX6_row ({ frames := 1, cells := 0, slots := 0, locals := 23 } : Room) (Pw G [.ref x, .int k, .int n] ws sz) (va_Qi (fun (r : Int32) (u : va_W) => r = (sp_row S k n).1 ∧ RpM G x ha at_ li (sp_row S k n).2 u) (Bw G ws sz) (va_A ws sz)) 0 0 (va_A ws sz) := by
  refine Met_pw (cc := cX6_row) (maxL := 4) (ret := (some .int)) (by decide) rfl (Nat.le_of_ble_eq_true rfl) ?_
  intro p e s m below meth c ls hsz S9 hr hlk hnm w hl
  subst hsz
  replace S9 : CallFix p m c cX6_row 4 s _ wsX6_row RX6 := S9
  have hx := S9.1
  have hb := S9.2.1
  have hown := S9.2.2.2.1
  have hts := S9.2.2.2.2
  replace hl : lv_has ls 4 [(0, .ref x), (1, .int k), (2, .int n)] := hl
  obtain ⟨hf, af, m1, m2, m3, m4, m5, m6⟩ := id hR
  refine lv_iload_n hx hb dX6_row_0 rfl (lv_at hl 1 rfl) ?_
  refine lv_if_lt (tgt := 10) hx hb dX6_row_1 (by decide) (fun c_1 => ?_) (fun c_1 => ?_)
  · refine lv_iconst (v := (-1)) hx hb dX6_row_10 (by decide) ?_
    exact ew_i S9 hr hlk w (by rw [show sp_row S k n = (-1, S) from by unfold sp_row; rw [if_pos c_1]]; exact ⟨rfl, hR⟩) dX6_row_11 (by decide) (by decide)
  · refine lv_iload_n hx hb dX6_row_4 rfl (lv_at hl 1 rfl) ?_
    refine lv_bipush (v := 6) hx hb dX6_row_5 (by decide) ?_
    refine lv_icmp_le (tgt := 12) hx hb dX6_row_7 (by decide) (fun c_7 => ?_) (fun c_7 => ?_)
    · refine lv_aload_n hx hb dX6_row_12 rfl (lv_at hl 0 rfl) ?_
      refine k_vi S9 w (c_mlowestEmpty l _ hR hI) m1 rfl (cwV 0 hts gX6_row_X6_lowestEmpty rfl rfl rfl (by decide +kernel) ⟨Nat.le_of_ble_eq_true rfl, Nat.le_of_ble_eq_true rfl⟩) rfl hl.1 rfl (Nat.le_of_ble_eq_true rfl) dX6_row_13 ⟨Nat.le_of_ble_eq_true rfl, Nat.le_of_ble_eq_true rfl⟩ (fun r1 er1 => ?_)
      cases hq : lowE S with
      | none =>
        rw [hq] at er1
        replace er1 : r1 = (-1) := er1
        subst er1
        refine lv_istore_n (lv' := [(3, .int (-1)), (0, .ref x), (1, .int k), (2, .int n)]) hx hb dX6_row_16 rfl hl (by decide) rfl (fun ls hl => ?_)
        refine lv_iload_n hx hb dX6_row_17 rfl (lv_at hl 3 rfl) ?_
        refine lv_sipush (v := 2000) hx hb dX6_row_18 (by decide) ?_
        refine lv_icmp_gt (tgt := 39) hx hb dX6_row_21 (by decide) (fun c_21 => ?_) (fun c_21 => ?_)
        · refine lv_bipush (v := (-2)) hx hb dX6_row_39 (by decide) ?_
          exact ew_i S9 hr hlk w (by rw [show sp_row S k n = (-2, S) from by by_cases h2 : (2000 : Int32) < n; (unfold sp_row; rw [if_neg c_1, if_neg (by rw [ii_lt]; rw [ii_le] at c_7; omega), if_pos h2]); (unfold sp_row; rw [if_neg c_1, if_neg (by rw [ii_lt]; rw [ii_le] at c_7; omega), if_neg h2]; simp only [hq])]; exact ⟨rfl, hR⟩) dX6_row_41 (by decide) (by decide)
        · refine lv_iload_n hx hb dX6_row_24 rfl (lv_at hl 0 rfl) ?_
          refine lv_if_lt (tgt := 39) hx hb dX6_row_25 (by decide) (fun c_25 => ?_) (fun c_25 => absurd c_25 (by decide))
          refine lv_bipush (v := (-2)) hx hb dX6_row_39 (by decide) ?_
          exact ew_i S9 hr hlk w (by rw [show sp_row S k n = (-2, S) from by by_cases h2 : (2000 : Int32) < n; (unfold sp_row; rw [if_neg c_1, if_neg (by rw [ii_lt]; rw [ii_le] at c_7; omega), if_pos h2]); (unfold sp_row; rw [if_neg c_1, if_neg (by rw [ii_lt]; rw [ii_le] at c_7; omega), if_neg h2]; simp only [hq])]; exact ⟨rfl, hR⟩) dX6_row_41 (by decide) (by decide)
      | some p4 =>
        rw [hq] at er1
        replace er1 : r1 = nI p4 := er1
        subst er1
        have hp5 := lowE_lt hq
        refine lv_istore_n (lv' := [(3, .int (nI p4)), (0, .ref x), (1, .int k), (2, .int n)]) hx hb dX6_row_16 rfl hl (by decide) rfl (fun ls hl => ?_)
        refine lv_iload_n hx hb dX6_row_17 rfl (lv_at hl 3 rfl) ?_
        refine lv_sipush (v := 2000) hx hb dX6_row_18 (by decide) ?_
        refine lv_icmp_gt (tgt := 39) hx hb dX6_row_21 (by decide) (fun c_21 => ?_) (fun c_21 => ?_)
        · refine lv_bipush (v := (-2)) hx hb dX6_row_39 (by decide) ?_
          exact ew_i S9 hr hlk w (by rw [show sp_row S k n = (-2, S) from by unfold sp_row; rw [if_neg c_1, if_neg (by rw [ii_lt]; rw [ii_le] at c_7; omega), if_pos c_21]]; exact ⟨rfl, hR⟩) dX6_row_41 (by decide) (by decide)
        · refine lv_iload_n hx hb dX6_row_24 rfl (lv_at hl 0 rfl) ?_
          refine lv_if_lt (tgt := 39) hx hb dX6_row_25 (by decide) (fun c_25 => absurd c_25 (nI_pos (by omega))) (fun c_25 => ?_)
          refine lv_iload_n hx hb dX6_row_28 rfl (lv_at hl 3 rfl) ?_
          refine lv_ldc (v := 60000) hx hb hown (hts (.constant RX6 7 (60000)) (by decide +kernel)) dX6_row_29 ?_
          refine lv_aload_n hx hb dX6_row_31 rfl (lv_at hl 1 rfl) ?_
          refine r_get (ref := "SpanMoverModel") S9 w m1 rfl (by decide +kernel) 1 (by decide) (by decide +kernel) (Or.inl rfl) rfl dX6_row_32 ?_
          refine lv_isub hx hb dX6_row_35 ?_
          refine lv_topi (fun v2 ev2 => ?_)
          refine lv_icmp_lt (tgt := 42) hx hb dX6_row_36 (by decide) (fun c_36 => ?_) (fun c_36 => ?_)
          · refine lv_iload_n hx hb dX6_row_42 rfl (lv_at hl 3 rfl) ?_
            refine lv_if_ge (tgt := 49) hx hb dX6_row_43 (by decide) (fun c_43 => ?_) (fun c_43 => ?_)
            · refine lv_aload_n hx hb dX6_row_49 rfl (lv_at hl 1 rfl) ?_
              refine lv_iload_n hx hb dX6_row_50 rfl (lv_at hl 0 rfl) ?_
              refine lv_iload_n hx hb dX6_row_51 rfl (lv_at hl 2 rfl) ?_
              refine lv_iload_n hx hb dX6_row_52 rfl (lv_at hl 3 rfl) ?_
              obtain ⟨k', hk', rfl⟩ : ∃ k' : Nat, k' < 2 ^ 31 ∧ k = nI k' := nI_of c_1
              have hk6 : k' ≤ 6 := (nI_leI (b := 6) hk' (by decide)).mp c_7
              obtain ⟨n', hn', rfl⟩ : ∃ n' : Nat, n' < 2 ^ 31 ∧ n = nI n' := nI_of (by rw [ii_lt]; rw [ii_le] at c_43; omega)
              have hn2 : n' ≤ 2000 := by
                have : ¬ 2000 < n' := fun q => c_21 ((nI_ltI (a := 2000) (by decide) hn').mpr q)
                omega
              have bn : n' < 60000 - s_u S := by
                rw [ev2] at c_36
                have e6 : (60000 : Int32) - nI (s_u S) = nI (60000 - s_u S) := pk_sub (a := 60000) hI.1
                rw [e6] at c_36
                exact (nI_ltI hn' (by omega)).mp c_36
              refine kw_vi S9 w (c_mstand l _ m1 m2 m3 m4 (by omega) p4 k' hp5.1 (nI n')) m1 rfl (cwV 3 hts gX6_row_X6_stand rfl rfl rfl (by decide +kernel) ⟨Nat.le_of_ble_eq_true rfl, Nat.le_of_ble_eq_true rfl⟩) rfl hl.1 rfl (Nat.le_of_ble_eq_true rfl) dX6_row_53 ⟨Nat.le_of_ble_eq_true rfl, Nat.le_of_ble_eq_true rfl⟩ (fun v12 u12 H12 lc12 p12 w12 => ?_)
              obtain ⟨g0, g1, g2, g3, g4⟩ := p12
              refine lv_pop hx hb dX6_row_56 rfl ?_
              refine lv_aload_n hx hb dX6_row_57 rfl (lv_at hl 1 rfl) ?_
              refine lv_dup hx hb dX6_row_58 rfl ?_
              refine r_get (ref := "SpanMoverModel") S9 w12 g1 rfl (by decide +kernel) 1 (by decide) (by decide +kernel) (Or.inl rfl) rfl dX6_row_59 ?_
              refine lv_iload_n hx hb dX6_row_62 rfl (lv_at hl 3 rfl) ?_
              refine lv_iadd hx hb dX6_row_63 ?_
              refine lv_topi (fun v3 ev3 => ?_)
              refine r_put (ref := "SpanMoverModel") S9 w12 g1 rfl (by decide +kernel) tyX6_ok nmX6 1 (by decide) (by decide +kernel) (Or.inl rfl) rfl rfl rfl (Nat.le_of_ble_eq_true rfl) dX6_row_64 (fun wsD HD lcD uD wD => ?_)
              rw [show v3 = nI (s_u S + 1 + n') from by rw [ev3]; exact nI_add (s_u S + 1) n'] at uD
              have nnD := mne w12.2.1 g1 g2 g3 g4
              have m1D : hp wsD x (.inr (4, [.ref ha, .int (nI (s_u S + 1 + n')), .ref at_, .ref li, .int (s_c S 0), .int (s_c S 2), .int (s_c S 4), .int (s_c S 3), .int (s_c S 5), .int (s_c S 6)])) := uD.1
              have m2D := uD.keep nnD.1.1.symm g2
              have m3D := uD.keep nnD.1.2.1.symm g3
              have m4D := uD.keep nnD.1.2.2.symm g4
              have hR8 : RpM G x ha at_ li (s_new S p4 (k', n', 0, fun _ => 0, fun _ => none) (s_c S 1 - (nI n' + 1))) wsD := ⟨_, _, m1D, m2D, m3D, m4D, (fun z hz => (Decidable.em (z = p4)).elim (fun hz4 => by subst hz4; rw [pk_us]; show nI (s_u S + 1) = nI (encO (va_up (s_s S) z (some (s_u S)) z)); rw [va_up_self]; rfl) (fun hz4 => by rw [pk_un hz4]; show af z = nI (encO (va_up (s_s S) p4 (some (s_u S)) z)); rw [va_up_ne _ _ hz4]; exact m5 z hz)), HpM.new hI m6 (o := (k', n', 0, fun _ => 0, fun _ => none)) (by rw [show loV (k', n', 0, (fun _ => 0 : Nat → Int64), (fun _ => none : Nat → Option Nat)) = nI n' from loV_row hk6]; rfl) (show s_u S + 1 + n' ≤ 60000 by omega) rfl rfl⟩
              refine lv_iload_n hx hb dX6_row_67 rfl (lv_at hl 0 rfl) ?_
              exact ew_i S9 hr hlk wD (by have e6 : (60000 : Int32) - nI (s_u S) = s_c S 1 := ((pk_sub (a := 60000) hI.1).trans hI.2.1.symm); rw [show sp_row S (nI k') (nI n') = (nI p4, s_new S p4 (k', n', 0, fun _ => 0, fun _ => none) (s_c S 1 - (nI n' + 1))) from by unfold sp_row; rw [if_neg c_1, if_neg (by rw [ii_lt]; rw [ii_le] at c_7; omega), if_neg c_21]; simp only [hq]; rw [if_neg (fun q => (lt_succ c_21).mp q (by rw [← e6, ← ev2]; exact c_36)), if_neg (by rw [ii_lt]; rw [ii_le] at c_43; omega), nI_clamp hk', nI_clamp hn']]; exact ⟨rfl, hR8⟩) dX6_row_68 (by decide) (by decide)
            · refine lv_bipush (v := (-3)) hx hb dX6_row_46 (by decide) ?_
              exact ew_i S9 hr hlk w (by have e6 : (60000 : Int32) - nI (s_u S) = s_c S 1 := ((pk_sub (a := 60000) hI.1).trans hI.2.1.symm); rw [show sp_row S k n = (-3, S) from by unfold sp_row; rw [if_neg c_1, if_neg (by rw [ii_lt]; rw [ii_le] at c_7; omega), if_neg c_21]; simp only [hq]; rw [if_neg (fun q => (lt_succ c_21).mp q (by rw [← e6, ← ev2]; exact c_36)), if_pos (by rw [ii_lt]; rw [ii_le] at c_43; omega)]]; exact ⟨rfl, hR⟩) dX6_row_48 (by decide) (by decide)
          · refine lv_bipush (v := (-2)) hx hb dX6_row_39 (by decide) ?_
            exact ew_i S9 hr hlk w (by have e6 : (60000 : Int32) - nI (s_u S) = s_c S 1 := ((pk_sub (a := 60000) hI.1).trans hI.2.1.symm); rw [show sp_row S k n = (-2, S) from by unfold sp_row; rw [if_neg c_1, if_neg (by rw [ii_lt]; rw [ii_le] at c_7; omega), if_neg c_21]; simp only [hq]; rw [if_pos ((lt_succ c_21).mpr (fun q => c_36 (by rw [ev2, e6]; exact q)))]]; exact ⟨rfl, hR⟩) dX6_row_41 (by decide) (by decide)
    · refine lv_iconst (v := (-1)) hx hb dX6_row_10 (by decide) ?_
      exact ew_i S9 hr hlk w (by rw [show sp_row S k n = (-1, S) from by unfold sp_row; rw [if_neg c_1, if_pos (by rw [ii_lt]; rw [ii_le] at c_7; omega)]]; exact ⟨rfl, hR⟩) dX6_row_11 (by decide) (by decide)

set_option maxHeartbeats 4000000 in
set_option maxRecDepth 100000 in
theorem c_minit (l : Launch) {G : Gt} {ws : va_W} (sz : Nat) {x : Nat} (hx0 : hp ws x (.inr (4, [.null, .int 0, .null, .null, .int 0, .int 0, .int 0, .int 0, .int 0, .int 0]))) : Met l yX6_init wsX6_init ({ frames := 1, cells := 3, slots := 60720, locals := 12 } : Room) (Pw G [.ref x] ws sz) (va_Qv (fun (u : va_W) => ∃ ha at_ li, RpM G x ha at_ li S0 u) (Bw G ws sz) (va_A ws sz)) 3 60720 (va_A ws sz) := by
  refine Met_pw (cc := cX6_init) (maxL := 1) (ret := none) (by decide) rfl (Nat.le_of_ble_eq_true rfl) ?_
  intro p e s m below meth c ls hsz S9 hr hlk hnm w hl
  subst hsz
  replace S9 : CallFix p m c cX6_init 1 s _ wsX6_init RX6 := S9
  have hx := S9.1
  have hb := S9.2.1
  have hown := S9.2.2.2.1
  have hts := S9.2.2.2.2
  replace hl : lv_has ls 1 [(0, .ref x)] := hl
  refine lv_aload_n hx hb dX6_init_0 rfl (lv_at hl 0 rfl) ?_
  refine W.objInit hx hb hown (hts (.methodLink RX6 1 objectInit) (by decide +kernel)) (hts (.instanceMethod objectInit) (by decide +kernel)) (hts _ (List.mem_of_getElem? (i := 3) rfl)) rfl (hl.1.trans S9.2.2.1.symm) rfl dX6_init_1 (Nat.le_of_ble_eq_true rfl) (Nat.le_of_ble_eq_true rfl) ?_
  refine W.eq (g2 := F0 m 4 ls []) rfl ?_
  refine lv_aload_n hx hb dX6_init_4 rfl (lv_at hl 0 rfl) ?_
  refine lv_ldc (v := 60000) hx hb hown (hts (.constant RX6 7 (60000)) (by decide +kernel)) dX6_init_5 ?_
  refine r_newJ S9 w (by decide +kernel) (by decide) (N := 60000) rfl (by decide) (Nat.le_of_ble_eq_true rfl) (Nat.le_of_ble_eq_true rfl) dX6_init_7 (fun ha ws1 H1 fr1 u1 w1 => ?_)
  have nxha : x ≠ ha := fun z => fr1 _ (by rw [← z]; exact hx0)
  have nhax := nxha.symm
  have x_1 : hp ws1 x (.inr (4, [.null, .int 0, .null, .null, .int 0, .int 0, .int 0, .int 0, .int 0, .int 0])) := u1.keep nxha hx0
  refine r_putF S9 w1 hnm x_1 rfl (by decide +kernel) tyX6_ok nmX6 0 (by decide) (by decide +kernel) rfl rfl rfl rfl (Nat.le_of_ble_eq_true rfl) dX6_init_9 (fun ws2 H2 lc2 u2 w2 => ?_)
  have x_2 : hp ws2 x (.inr (4, [.ref ha, .int 0, .null, .null, .int 0, .int 0, .int 0, .int 0, .int 0, .int 0])) := u2.1
  have ha_2 : hp ws2 ha (aJ G 60000 (fun _ => 0)) := u2.keep nhax u1.1
  refine lv_aload_n hx hb dX6_init_12 rfl (lv_at hl 0 rfl) ?_
  refine lv_sipush (v := 400) hx hb dX6_init_13 (by decide) ?_
  refine r_newI S9 w2 (by decide +kernel) (by decide) (N := 400) rfl (by decide) (Nat.le_of_ble_eq_true rfl) (Nat.le_of_ble_eq_true rfl) dX6_init_16 (fun at_ ws3 H3 fr3 u3 w3 => ?_)
  have nxat_ : x ≠ at_ := fun z => fr3 _ (by rw [← z]; exact x_2)
  have nat_x := nxat_.symm
  have nhaat_ : ha ≠ at_ := fun z => fr3 _ (by rw [← z]; exact ha_2)
  have nat_ha := nhaat_.symm
  have x_3 : hp ws3 x (.inr (4, [.ref ha, .int 0, .null, .null, .int 0, .int 0, .int 0, .int 0, .int 0, .int 0])) := u3.keep nxat_ x_2
  have ha_3 : hp ws3 ha (aJ G 60000 (fun _ => 0)) := u3.keep nhaat_ ha_2
  refine r_putF S9 w3 hnm x_3 rfl (by decide +kernel) tyX6_ok nmX6 2 (by decide) (by decide +kernel) rfl rfl rfl rfl (Nat.le_of_ble_eq_true rfl) dX6_init_18 (fun ws4 H4 lc4 u4 w4 => ?_)
  have x_4 : hp ws4 x (.inr (4, [.ref ha, .int 0, .ref at_, .null, .int 0, .int 0, .int 0, .int 0, .int 0, .int 0])) := u4.1
  have ha_4 : hp ws4 ha (aJ G 60000 (fun _ => 0)) := u4.keep nhax ha_3
  have at__4 : hp ws4 at_ (aI G 400 (fun _ => 0)) := u4.keep nat_x u3.1
  refine lv_aload_n hx hb dX6_init_21 rfl (lv_at hl 0 rfl) ?_
  refine lv_sipush (v := 320) hx hb dX6_init_22 (by decide) ?_
  refine r_newI S9 w4 (by decide +kernel) (by decide) (N := 320) rfl (by decide) (Nat.le_of_ble_eq_true rfl) (Nat.le_of_ble_eq_true rfl) dX6_init_25 (fun li ws5 H5 fr5 u5 w5 => ?_)
  have nxli : x ≠ li := fun z => fr5 _ (by rw [← z]; exact x_4)
  have nlix := nxli.symm
  have nhali : ha ≠ li := fun z => fr5 _ (by rw [← z]; exact ha_4)
  have nliha := nhali.symm
  have nat_li : at_ ≠ li := fun z => fr5 _ (by rw [← z]; exact at__4)
  have nliat_ := nat_li.symm
  have x_5 : hp ws5 x (.inr (4, [.ref ha, .int 0, .ref at_, .null, .int 0, .int 0, .int 0, .int 0, .int 0, .int 0])) := u5.keep nxli x_4
  have ha_5 : hp ws5 ha (aJ G 60000 (fun _ => 0)) := u5.keep nhali ha_4
  have at__5 : hp ws5 at_ (aI G 400 (fun _ => 0)) := u5.keep nat_li at__4
  refine r_putF S9 w5 hnm x_5 rfl (by decide +kernel) tyX6_ok nmX6 3 (by decide) (by decide +kernel) rfl rfl rfl rfl (Nat.le_of_ble_eq_true rfl) dX6_init_27 (fun ws6 H6 lc6 u6 w6 => ?_)
  have x_6 : hp ws6 x (.inr (4, [.ref ha, .int 0, .ref at_, .ref li, .int 0, .int 0, .int 0, .int 0, .int 0, .int 0])) := u6.1
  have ha_6 : hp ws6 ha (aJ G 60000 (fun _ => 0)) := u6.keep nhax ha_5
  have at__6 : hp ws6 at_ (aI G 400 (fun _ => 0)) := u6.keep nat_x at__5
  have li_6 : hp ws6 li (aI G 320 (fun _ => 0)) := u6.keep nlix u5.1
  exact ew_v S9 hr hlk w6 (⟨ha, at_, li, fun _ => 0, fun _ => 0, x_6, ha_6, at__6, li_6, (fun i _ => rfl), (fun h o q => by cases q), (fun j _ _ => rfl)⟩) dX6_init_30 (by decide) (by decide)
