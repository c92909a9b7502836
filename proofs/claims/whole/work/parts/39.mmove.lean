theorem bR_zero {o o9 : Ob} {i j n : Int32} (h : bR o o9 i j n = 0) : ref3 (some o) (some o9) = 0 ∧ inS (o_n o) i n ∧ inS (o_n o9) j n := by
  unfold bR at h
  by_cases h3 : ref3 (some o) (some o9) = 0
  · rw [if_neg (fun q => q h3)] at h
    by_cases s1 : inS (o_n o) i n
    · rw [if_neg (fun q => q s1)] at h
      by_cases s2 : inS (o_n o9) j n
      · exact ⟨h3, s1, s2⟩
      · rw [if_pos s2] at h; exact absurd h (by decide)
    · rw [if_pos s1] at h; exact absurd h (by decide)
  · rw [if_pos h3] at h; exact absurd h h3
theorem mv_bR {S : St} {a i b j n : Int32} (hI : Inv S) {x y : Nat} {o o' : Ob} (ha : itm S a = some x) (hb : itm S b = some y) (ho : s_o S x = some o) (ho' : s_o S y = some o') (h : ¬ bR o o' i j n = 0) : mv S a i b j n = (bR o o' i j n, 0, s_o S) := by
  by_cases h3 : ref3 (some o) (some o') = 0
  · rw [mv_ok ha hb ho ho' h3]
    by_cases s1 : inS (o_n o) i n
    · by_cases s2 : inS (o_n o') j n
      · exact absurd (by unfold bR; rw [if_neg (fun q => q h3), if_neg (fun q => q s1), if_neg (fun q => q s2)]) h
      · have e1 : bR o o' i j n = 4 := by unfold bR; rw [if_neg (fun q => q h3), if_neg (fun q => q s1), if_pos s2]
        have e2 : mvR S y o o' i j n = (4, 0, s_o S) := by unfold mvR; rw [if_neg (fun q => q s1), if_pos s2]
        rw [e1, e2]
    · have e1 : bR o o' i j n = 4 := by unfold bR; rw [if_neg (fun q => q h3), if_pos s1]
      have e2 : mvR S y o o' i j n = (4, 0, s_o S) := by unfold mvR; rw [if_pos s1]
      rw [e1, e2]
  · have h4 : ¬ ref3 (obj S (itm S a)) (obj S (itm S b)) = 0 := by rw [obj_some ha ho, obj_some hb ho']; exact h3
    rw [mv_no h4 hI, obj_some ha ho, obj_some hb ho']
    unfold bR
    rw [if_pos h3]
theorem fitE_sc {S S' : St} (h : s_o S' = s_o S) {k : Nat} {r : Option Nat} : fitE S' k r = fitE S k r := by
  unfold fitE obj
  rw [h]
theorem va_cpy_0 {α : Type} {f g : Nat → α} {a b : Nat} : va_cpy f g a b 0 = g := by
  funext z
  unfold va_cpy
  rw [if_neg (by omega)]
theorem idx3 {a b c : Nat} : nI a + 1 + nI b + nI c = nI (a + 1 + b + c) := by
  rw [nI_1, nI_add, nI_add]
theorem cpy_fw {hf : Nat → Int64} {A B k : Nat} (h : ∀ q, q < k → A + k ≠ B + q) : va_cpy hf hf A B k (A + k) = hf (A + k) := by
  unfold va_cpy
  rw [if_neg (fun ⟨h1, h2⟩ => h (A + k - B) (by omega) (by omega))]
theorem cpy_fw1 {hf : Nat → Int64} {A B k : Nat} : vp_updL (va_cpy hf hf A B k) (B + k) (hf (A + k)) = va_cpy hf hf A B (k + 1) := by
  funext z
  by_cases hz : z = B + k
  · subst hz
    rw [pk_uLs]
    unfold va_cpy
    rw [if_pos (by omega)]
    congr 1
    omega
  · rw [pk_uLn hz]
    unfold va_cpy
    by_cases h : B ≤ z ∧ z < B + k
    · rw [if_pos h, if_pos (by omega)]
    · rw [if_neg h, if_neg (by omega)]
theorem cpy_bw {hf : Nat → Int64} {A B k t : Nat} (h : A < B) : va_cpy hf hf (A + (t - k)) (B + (t - k)) k (A + (t - 1 - k)) = hf (A + (t - 1 - k)) := by
  unfold va_cpy
  rw [if_neg (by omega)]
theorem cpy_bw1 {hf : Nat → Int64} {A B k t : Nat} (hk : k < t) : vp_updL (va_cpy hf hf (A + (t - k)) (B + (t - k)) k) (B + (t - 1 - k)) (hf (A + (t - 1 - k))) = va_cpy hf hf (A + (t - (k + 1))) (B + (t - (k + 1))) (k + 1) := by
  funext z
  by_cases hz : z = B + (t - 1 - k)
  · subst hz
    rw [pk_uLs]
    unfold va_cpy
    rw [if_pos (by omega)]
    congr 1
    omega
  · rw [pk_uLn hz]
    unfold va_cpy
    by_cases h : B + (t - k) ≤ z ∧ z < B + (t - k) + k
    · rw [if_pos h, if_pos (by omega)]
      congr 1
      omega
    · rw [if_neg h, if_neg (by omega)]
/-- a span of the reference's row is copied, and with it an object's -/
theorem HpM.cpy {S : St} (hI : Inv S) {hf : Nat → Int64} (m6 : HpM S hf) {h h9 : Nat} {o o9 o2 : Ob} {sc : Nat → Int32} (ho : s_o S h = some o) (ho9 : s_o S h9 = some o9) (hk : o_k o2 = o_k o9) (hn : o_n o2 = o_n o9) (hv : o_v o2 = o_v o9) {i j t : Nat} (b0 : i + t ≤ o_n o) (b9 : j + t ≤ o_n o9)
    (h3 : o_k o9 ≤ 3 → (∀ z, z < o_n o9 → (j ≤ z ∧ z < j + t → hf (h + 1 + i + (z - j)) = o_f o2 z) ∧ (¬ (j ≤ z ∧ z < j + t) → o_f o2 z = o_f o9 z))) (h6 : 4 ≤ o_k o9 → o_k o9 ≤ 6 → (∀ z, z < o_n o9 → (j ≤ z ∧ z < j + t → hf (h + 1 + i + (z - j)) = lN (encO (o_e o2 z))) ∧ (¬ (j ≤ z ∧ z < j + t) → o_e o2 z = o_e o9 z))) :
    HpM (s_u S, va_up (s_o S) h9 (some o2), s_s S, s_l S, sc) (va_cpy hf hf (h + 1 + i) (h9 + 1 + j) t) := by
  obtain ⟨g1, g2⟩ := m6
  have bs9 := (hI.2.2.2.1 h9 o9 ho9).2.2
  have out : ∀ z, ¬ (h9 + 1 + j ≤ z ∧ z < h9 + 1 + j + t) → va_cpy hf hf (h + 1 + i) (h9 + 1 + j) t z = hf z := fun z hz => by
    unfold va_cpy
    rw [if_neg hz]
  have ins : ∀ z, j ≤ z → z < j + t → va_cpy hf hf (h + 1 + i) (h9 + 1 + j) t (h9 + 1 + z) = hf (h + 1 + i + (z - j)) := fun z h1 h2 => by
    unfold va_cpy
    rw [if_pos (by omega)]
    congr 1
    omega
  refine ⟨fun a oa ha => ?_, fun z hz hz6 => ?_⟩
  · by_cases hah : a = h9
    · subst hah
      have e : oa = o2 := by
        have := ha.symm.trans (va_up_eq (f := s_o S) (k := a) (v := some o2))
        cases this
        rfl
      subst e
      obtain ⟨q1, q2, q3⟩ := g1 a o9 ho9
      refine ⟨?_, fun k3 z hz => ?_, fun k4 k6 z hz => ?_⟩
      · rw [out a (by omega), q1]
        unfold hdO loV
        rw [hk, hn, hv]
      · rw [hn] at hz
        rw [hk] at k3
        obtain ⟨r1, r2⟩ := h3 k3 z hz
        by_cases hr : j ≤ z ∧ z < j + t
        · rw [ins z hr.1 hr.2]; exact r1 hr
        · rw [out _ (by omega), r2 hr]; exact q2 k3 z hz
      · rw [hn] at hz
        rw [hk] at k4 k6
        obtain ⟨r1, r2⟩ := h6 k4 k6 z hz
        by_cases hr : j ≤ z ∧ z < j + t
        · rw [ins z hr.1 hr.2]; exact r1 hr
        · rw [out _ (by omega), r2 hr]; exact q3 k4 k6 z hz
    · have ha0 : s_o S a = some oa := by rw [← ha]; exact (va_up_ne (s_o S) _ hah).symm
      obtain ⟨q1, q2, q3⟩ := g1 a oa ha0
      have far : ∀ z, (z = a ∨ ∃ y, y < o_n oa ∧ z = a + 1 + y) → ¬ (h9 + 1 + j ≤ z ∧ z < h9 + 1 + j + t) := by
        intro z hz hr
        have sg := seg hI ho9 ha0 (Ne.symm hah) (j := z - (h9 + 1)) (by omega)
        rcases hz with rfl | ⟨y, hy, rfl⟩
        · exact sg.1 (by omega)
        · exact sg.2 y hy (by omega)
      exact ⟨by rw [out a (far a (Or.inl rfl))]; exact q1, fun k3 z hz => by rw [out _ (far _ (Or.inr ⟨z, hz, rfl⟩))]; exact q2 k3 z hz, fun k4 k6 z hz => by rw [out _ (far _ (Or.inr ⟨z, hz, rfl⟩))]; exact q3 k4 k6 z hz⟩
  · have hz : s_u S ≤ z := hz
    rw [out z (by omega)]
    exact g2 z hz hz6
theorem HpM.cpyN {S S' : St} {sc : Nat → Int32} (hI : Inv S) {hf : Nat → Int64} (m6 : HpM S' hf) {h h9 : Nat} {o o9 : Ob} (ho : s_o S h = some o) (ho9 : s_o S h9 = some o9) (hk : o_k o ≤ 3) (hk9 : o_k o9 ≤ 3) {i j t : Nat} (b0 : i + t ≤ o_n o) (b9 : j + t ≤ o_n o9) (e1 : s_u S' = s_u S := by rfl) (e2 : s_o S' = s_o S := by rfl) : HpM (s_u S, va_up (s_o S) h9 (some (o_setf o9 (va_cpy (o_f o) (o_f o9) i j t))), s_s S, s_l S, sc) (va_cpy hf hf (h + 1 + i) (h9 + 1 + j) t) := by
  have m7 : HpM S hf := by
    unfold HpM at m6 ⊢
    rw [e1, e2] at m6
    exact m6
  refine HpM.cpy (o2 := o_setf o9 (va_cpy (o_f o) (o_f o9) i j t)) hI m7 ho ho9 rfl rfl rfl b0 b9 (fun _ z hz => ⟨fun hr => ?_, fun hr => ?_⟩) (fun k4 => absurd k4 (by omega))
  · rw [show h + 1 + i + (z - j) = h + 1 + (i + (z - j)) by omega, (m7.1 h o ho).2.1 hk _ (by omega)]
    show _ = va_cpy (o_f o) (o_f o9) i j t z
    rw [pk_cpy_in hr.1 hr.2]
  · show va_cpy (o_f o) (o_f o9) i j t z = _
    rw [pk_cpy_out (by omega)]
theorem HpM.cpyO {S S' : St} {sc : Nat → Int32} (hI : Inv S) {hf : Nat → Int64} (m6 : HpM S' hf) {h h9 : Nat} {o o9 : Ob} (ho : s_o S h = some o) (ho9 : s_o S h9 = some o9) (hk : 4 ≤ o_k o) (k6 : o_k o ≤ 6) (hk9 : 4 ≤ o_k o9) (k9 : o_k o9 ≤ 6) {i j t : Nat} (b0 : i + t ≤ o_n o) (b9 : j + t ≤ o_n o9) (e1 : s_u S' = s_u S := by rfl) (e2 : s_o S' = s_o S := by rfl) : HpM (s_u S, va_up (s_o S) h9 (some (o_sete o9 (va_cpy (o_e o) (o_e o9) i j t))), s_s S, s_l S, sc) (va_cpy hf hf (h + 1 + i) (h9 + 1 + j) t) := by
  have m7 : HpM S hf := by
    unfold HpM at m6 ⊢
    rw [e1, e2] at m6
    exact m6
  refine HpM.cpy (o2 := o_sete o9 (va_cpy (o_e o) (o_e o9) i j t)) hI m7 ho ho9 rfl rfl rfl b0 b9 (fun k3 => absurd k3 (by omega)) (fun _ _ z hz => ⟨fun hr => ?_, fun hr => ?_⟩)
  · rw [show h + 1 + i + (z - j) = h + 1 + (i + (z - j)) by omega, (m7.1 h o ho).2.2 hk k6 _ (by omega)]
    show _ = lN (encO (va_cpy (o_e o) (o_e o9) i j t z))
    rw [pk_cpy_in hr.1 hr.2]
  · show va_cpy (o_e o) (o_e o9) i j t z = _
    rw [pk_cpy_out (by omega)]
set_option maxHeartbeats 4000000 in
set_option maxRecDepth 100000 in
theorem c_mmove (l : Launch) {G : Gt} {ws : va_W} (sz : Nat) {x ha at_ li : Nat} {S : St} (hR : RpM G x ha at_ li S ws) (hI : Inv S) (a i b j n : Int32) : Met l yX6_move wsX6_move ({ frames := 3, cells := 0, slots := 0, locals := 68 } : Room) (Pw G [.ref x, .int a, .int i, .int b, .int j, .int n] ws sz) (va_Qi (fun (r : Int32) (u : va_W) => r = (sp_move S a i b j n).1 ∧ RpM G x ha at_ li (sp_move S a i b j n).2 u) (Bw G ws sz) (va_A ws sz)) 0 0 (va_A ws sz) := by
  refine Met_pw (cc := cX6_move) (maxL := 12) (ret := (some .int)) (by decide) rfl (Nat.le_of_ble_eq_true rfl) ?_
  intro p e s m below meth c ls hsz S9 hr hlk hnm w hl
  subst hsz
  replace S9 : CallFix p m c cX6_move 12 s _ wsX6_move RX6 := S9
  have hx := S9.1
  have hb := S9.2.1
  have hown := S9.2.2.2.1
  have hts := S9.2.2.2.2
  replace hl : lv_has ls 12 [(0, .ref x), (1, .int a), (2, .int i), (3, .int b), (4, .int j), (5, .int n)] := hl
  obtain ⟨hf, af, m1, m2, m3, m4, m5, m6⟩ := id hR
  refine lv_aload_n hx hb dX6_move_0 rfl (lv_at hl 0 rfl) ?_
  refine lv_iload_n hx hb dX6_move_1 rfl (lv_at hl 1 rfl) ?_
  refine kx_in S9 w hR hI gX6_move_X6_in hl.1 (Nat.le_of_ble_eq_true rfl) dX6_move_2 ⟨Nat.le_of_ble_eq_true rfl, Nat.le_of_ble_eq_true rfl⟩ ⟨Nat.le_of_ble_eq_true rfl, Nat.le_of_ble_eq_true rfl⟩ (fun i_2 => ?_) (fun h o i_2 ho => ?_)
  · refine lv_istore (lv' := [(6, .int (-1)), (0, .ref x), (1, .int a), (2, .int i), (3, .int b), (4, .int j), (5, .int n)]) hx hb dX6_move_5 hl (by decide) rfl (fun ls hl => ?_)
    refine lv_aload_n hx hb dX6_move_7 rfl (lv_at hl 1 rfl) ?_
    refine lv_iload_n hx hb dX6_move_8 rfl (lv_at hl 4 rfl) ?_
    refine kx_in S9 w hR hI gX6_move_X6_in hl.1 (Nat.le_of_ble_eq_true rfl) dX6_move_9 ⟨Nat.le_of_ble_eq_true rfl, Nat.le_of_ble_eq_true rfl⟩ ⟨Nat.le_of_ble_eq_true rfl, Nat.le_of_ble_eq_true rfl⟩ (fun i_9 => ?_) (fun h9 o9 i_9 ho9 => ?_)
    · refine lv_istore (lv' := [(7, .int (-1)), (6, .int (-1)), (0, .ref x), (1, .int a), (2, .int i), (3, .int b), (4, .int j), (5, .int n)]) hx hb dX6_move_12 hl (by decide) rfl (fun ls hl => ?_)
      refine lv_aload_n hx hb dX6_move_14 rfl (lv_at hl 2 rfl) ?_
      refine lv_iconst (v := 0) hx hb dX6_move_15 (by decide) ?_
      refine r_put (ref := "SpanMoverModel") S9 w m1 rfl (by decide +kernel) tyX6_ok nmX6 7 (by decide) (by decide +kernel) (Or.inl rfl) rfl rfl rfl (Nat.le_of_ble_eq_true rfl) dX6_move_16 (fun wsa1 Ha1 lca1 ua1 wa1 => ?_)
      have hRa1 := RpM.sc (f := upd (s_c S) 3 0) w.2.1 hR m1 ua1 rfl
      replace hRa1 : RpM G x ha at_ li (s_u S, s_o S, s_s S, s_l S, upd (s_c S) 3 0) wsa1 := hRa1
      obtain ⟨hfa1, afa1, m1a1, m2a1, m3a1, m4a1, m5a1, m6a1⟩ := id hRa1
      have xa1 : hp wsa1 x (.inr (4, [.ref ha, .int (nI (s_u S)), .ref at_, .ref li, .int (s_c S 0), .int (s_c S 2), .int (s_c S 4), .int (0 : Int32), .int (s_c S 5), .int (s_c S 6)])) := m1a1
      refine lv_aload_n hx hb dX6_move_19 rfl (lv_at hl 2 rfl) ?_
      refine lv_aload_n hx hb dX6_move_20 rfl (lv_at hl 2 rfl) ?_
      refine lv_iload hx hb dX6_move_21 (lv_at hl 1 rfl) ?_
      refine lv_iload_n hx hb dX6_move_23 rfl (lv_at hl 4 rfl) ?_
      refine lv_iload hx hb dX6_move_24 (lv_at hl 0 rfl) ?_
      refine lv_iload hx hb dX6_move_26 (lv_at hl 6 rfl) ?_
      refine lv_iload hx hb dX6_move_28 (lv_at hl 7 rfl) ?_
      refine k_vi S9 wa1 (c_mbars_N l _ i (-1) j n) xa1 rfl (cwV 5 hts gX6_move_X6_bars rfl rfl rfl (by decide +kernel) ⟨Nat.le_of_ble_eq_true rfl, Nat.le_of_ble_eq_true rfl⟩) rfl hl.1 rfl (Nat.le_of_ble_eq_true rfl) dX6_move_30 ⟨Nat.le_of_ble_eq_true rfl, Nat.le_of_ble_eq_true rfl⟩ (fun r1 er1 => ?_)
      subst er1
      refine r_put (ref := "SpanMoverModel") S9 wa1 xa1 rfl (by decide +kernel) tyX6_ok nmX6 6 (by decide) (by decide +kernel) (Or.inl rfl) rfl rfl rfl (Nat.le_of_ble_eq_true rfl) dX6_move_33 (fun wsa2 Ha2 lca2 ua2 wa2 => ?_)
      have hRa2 := RpM.sc (f := upd (upd (s_c S) 3 0) 4 1) wa1.2.1 hRa1 xa1 ua2 rfl
      replace hRa2 : RpM G x ha at_ li (s_u S, s_o S, s_s S, s_l S, upd (upd (s_c S) 3 0) 4 1) wsa2 := hRa2
      obtain ⟨hfa2, afa2, m1a2, m2a2, m3a2, m4a2, m5a2, m6a2⟩ := id hRa2
      have xa2 : hp wsa2 x (.inr (4, [.ref ha, .int (nI (s_u S)), .ref at_, .ref li, .int (s_c S 0), .int (s_c S 2), .int (1 : Int32), .int (0 : Int32), .int (s_c S 5), .int (s_c S 6)])) := m1a2
      refine lv_aload_n hx hb dX6_move_36 rfl (lv_at hl 2 rfl) ?_
      refine r_get (ref := "SpanMoverModel") S9 wa2 xa2 rfl (by decide +kernel) 6 (by decide) (by decide +kernel) (Or.inl rfl) rfl dX6_move_37 ?_
      refine lv_if_ne (tgt := 197) hx hb dX6_move_40 (by decide) (fun c_40 => ?_) (fun c_40 => absurd c_40 (by decide))
      refine lv_aload_n hx hb dX6_move_197 rfl (lv_at hl 2 rfl) ?_
      refine r_get (ref := "SpanMoverModel") S9 wa2 xa2 rfl (by decide +kernel) 6 (by decide) (by decide +kernel) (Or.inl rfl) rfl dX6_move_198 ?_
      refine lv_if_ne (tgt := 217) hx hb dX6_move_201 (by decide) (fun c_201 => ?_) (fun c_201 => absurd c_201 (by decide))
      refine lv_aload_n hx hb dX6_move_217 rfl (lv_at hl 2 rfl) ?_
      refine lv_dup hx hb dX6_move_218 rfl ?_
      refine r_get (ref := "SpanMoverModel") S9 wa2 xa2 rfl (by decide +kernel) 9 (by decide) (by decide +kernel) (Or.inl rfl) rfl dX6_move_219 ?_
      refine lv_iconst (v := 1) hx hb dX6_move_222 (by decide) ?_
      refine lv_iadd hx hb dX6_move_223 ?_
      refine lv_topi (fun v2 ev2 => ?_)
      refine r_put (ref := "SpanMoverModel") S9 wa2 xa2 rfl (by decide +kernel) tyX6_ok nmX6 9 (by decide) (by decide +kernel) (Or.inl rfl) rfl rfl rfl (Nat.le_of_ble_eq_true rfl) dX6_move_224 (fun wsa3 Ha3 lca3 ua3 wa3 => ?_)
      have hRa3 := RpM.sc (f := upd (upd (upd (s_c S) 3 0) 4 1) 6 v2) wa2.2.1 hRa2 xa2 ua3 rfl
      replace hRa3 : RpM G x ha at_ li (s_u S, s_o S, s_s S, s_l S, upd (upd (upd (s_c S) 3 0) 4 1) 6 v2) wsa3 := hRa3
      obtain ⟨hfa3, afa3, m1a3, m2a3, m3a3, m4a3, m5a3, m6a3⟩ := id hRa3
      have xa3 : hp wsa3 x (.inr (4, [.ref ha, .int (nI (s_u S)), .ref at_, .ref li, .int (s_c S 0), .int (s_c S 2), .int (1 : Int32), .int (0 : Int32), .int (s_c S 5), .int v2])) := m1a3
      refine lv_aload_n hx hb dX6_move_227 rfl (lv_at hl 2 rfl) ?_
      refine r_get (ref := "SpanMoverModel") S9 wa3 xa3 rfl (by decide +kernel) 6 (by decide) (by decide +kernel) (Or.inl rfl) rfl dX6_move_228 ?_
      exact ew_i S9 hr hlk wa3 (by have h1 : ref3 (obj S (itm S a)) (obj S (itm S b)) = 1 := (by rw [i_2]; simp [obj, ref3]); have hM := mv_no (S := S) (a := a) (i := i) (b := b) (j := j) (n := n) (by rw [h1]; decide) hI; rw [h1] at hM; rw [show sp_move S a i b j n = (1, (s_u S, s_o S, s_s S, s_l S, upd (upd (upd (s_c S) 3 0) 4 1) 6 v2)) from by simp only [sp_move, hM, mvc, if_neg (show ¬ (1 : Int32) = 0 by decide), ev2]]; exact ⟨rfl, hRa3⟩) dX6_move_231 (by decide) (by decide)
    · refine lv_istore (lv' := [(7, .int (nI h9)), (6, .int (-1)), (0, .ref x), (1, .int a), (2, .int i), (3, .int b), (4, .int j), (5, .int n)]) hx hb dX6_move_12 hl (by decide) rfl (fun ls hl => ?_)
      refine lv_aload_n hx hb dX6_move_14 rfl (lv_at hl 2 rfl) ?_
      refine lv_iconst (v := 0) hx hb dX6_move_15 (by decide) ?_
      refine r_put (ref := "SpanMoverModel") S9 w m1 rfl (by decide +kernel) tyX6_ok nmX6 7 (by decide) (by decide +kernel) (Or.inl rfl) rfl rfl rfl (Nat.le_of_ble_eq_true rfl) dX6_move_16 (fun wsa1 Ha1 lca1 ua1 wa1 => ?_)
      have hRa1 := RpM.sc (f := upd (s_c S) 3 0) w.2.1 hR m1 ua1 rfl
      replace hRa1 : RpM G x ha at_ li (s_u S, s_o S, s_s S, s_l S, upd (s_c S) 3 0) wsa1 := hRa1
      obtain ⟨hfa1, afa1, m1a1, m2a1, m3a1, m4a1, m5a1, m6a1⟩ := id hRa1
      have xa1 : hp wsa1 x (.inr (4, [.ref ha, .int (nI (s_u S)), .ref at_, .ref li, .int (s_c S 0), .int (s_c S 2), .int (s_c S 4), .int (0 : Int32), .int (s_c S 5), .int (s_c S 6)])) := m1a1
      refine lv_aload_n hx hb dX6_move_19 rfl (lv_at hl 2 rfl) ?_
      refine lv_aload_n hx hb dX6_move_20 rfl (lv_at hl 2 rfl) ?_
      refine lv_iload hx hb dX6_move_21 (lv_at hl 1 rfl) ?_
      refine lv_iload_n hx hb dX6_move_23 rfl (lv_at hl 4 rfl) ?_
      refine lv_iload hx hb dX6_move_24 (lv_at hl 0 rfl) ?_
      refine lv_iload hx hb dX6_move_26 (lv_at hl 6 rfl) ?_
      refine lv_iload hx hb dX6_move_28 (lv_at hl 7 rfl) ?_
      refine k_vi S9 wa1 (c_mbars_N l _ i (nI h9) j n) xa1 rfl (cwV 5 hts gX6_move_X6_bars rfl rfl rfl (by decide +kernel) ⟨Nat.le_of_ble_eq_true rfl, Nat.le_of_ble_eq_true rfl⟩) rfl hl.1 rfl (Nat.le_of_ble_eq_true rfl) dX6_move_30 ⟨Nat.le_of_ble_eq_true rfl, Nat.le_of_ble_eq_true rfl⟩ (fun r3 er3 => ?_)
      subst er3
      refine r_put (ref := "SpanMoverModel") S9 wa1 xa1 rfl (by decide +kernel) tyX6_ok nmX6 6 (by decide) (by decide +kernel) (Or.inl rfl) rfl rfl rfl (Nat.le_of_ble_eq_true rfl) dX6_move_33 (fun wsa2 Ha2 lca2 ua2 wa2 => ?_)
      have hRa2 := RpM.sc (f := upd (upd (s_c S) 3 0) 4 1) wa1.2.1 hRa1 xa1 ua2 rfl
      replace hRa2 : RpM G x ha at_ li (s_u S, s_o S, s_s S, s_l S, upd (upd (s_c S) 3 0) 4 1) wsa2 := hRa2
      obtain ⟨hfa2, afa2, m1a2, m2a2, m3a2, m4a2, m5a2, m6a2⟩ := id hRa2
      have xa2 : hp wsa2 x (.inr (4, [.ref ha, .int (nI (s_u S)), .ref at_, .ref li, .int (s_c S 0), .int (s_c S 2), .int (1 : Int32), .int (0 : Int32), .int (s_c S 5), .int (s_c S 6)])) := m1a2
      refine lv_aload_n hx hb dX6_move_36 rfl (lv_at hl 2 rfl) ?_
      refine r_get (ref := "SpanMoverModel") S9 wa2 xa2 rfl (by decide +kernel) 6 (by decide) (by decide +kernel) (Or.inl rfl) rfl dX6_move_37 ?_
      refine lv_if_ne (tgt := 197) hx hb dX6_move_40 (by decide) (fun c_40 => ?_) (fun c_40 => absurd c_40 (by decide))
      refine lv_aload_n hx hb dX6_move_197 rfl (lv_at hl 2 rfl) ?_
      refine r_get (ref := "SpanMoverModel") S9 wa2 xa2 rfl (by decide +kernel) 6 (by decide) (by decide +kernel) (Or.inl rfl) rfl dX6_move_198 ?_
      refine lv_if_ne (tgt := 217) hx hb dX6_move_201 (by decide) (fun c_201 => ?_) (fun c_201 => absurd c_201 (by decide))
      refine lv_aload_n hx hb dX6_move_217 rfl (lv_at hl 2 rfl) ?_
      refine lv_dup hx hb dX6_move_218 rfl ?_
      refine r_get (ref := "SpanMoverModel") S9 wa2 xa2 rfl (by decide +kernel) 9 (by decide) (by decide +kernel) (Or.inl rfl) rfl dX6_move_219 ?_
      refine lv_iconst (v := 1) hx hb dX6_move_222 (by decide) ?_
      refine lv_iadd hx hb dX6_move_223 ?_
      refine lv_topi (fun v4 ev4 => ?_)
      refine r_put (ref := "SpanMoverModel") S9 wa2 xa2 rfl (by decide +kernel) tyX6_ok nmX6 9 (by decide) (by decide +kernel) (Or.inl rfl) rfl rfl rfl (Nat.le_of_ble_eq_true rfl) dX6_move_224 (fun wsa3 Ha3 lca3 ua3 wa3 => ?_)
      have hRa3 := RpM.sc (f := upd (upd (upd (s_c S) 3 0) 4 1) 6 v4) wa2.2.1 hRa2 xa2 ua3 rfl
      replace hRa3 : RpM G x ha at_ li (s_u S, s_o S, s_s S, s_l S, upd (upd (upd (s_c S) 3 0) 4 1) 6 v4) wsa3 := hRa3
      obtain ⟨hfa3, afa3, m1a3, m2a3, m3a3, m4a3, m5a3, m6a3⟩ := id hRa3
      have xa3 : hp wsa3 x (.inr (4, [.ref ha, .int (nI (s_u S)), .ref at_, .ref li, .int (s_c S 0), .int (s_c S 2), .int (1 : Int32), .int (0 : Int32), .int (s_c S 5), .int v4])) := m1a3
      refine lv_aload_n hx hb dX6_move_227 rfl (lv_at hl 2 rfl) ?_
      refine r_get (ref := "SpanMoverModel") S9 wa3 xa3 rfl (by decide +kernel) 6 (by decide) (by decide +kernel) (Or.inl rfl) rfl dX6_move_228 ?_
      exact ew_i S9 hr hlk wa3 (by have h1 : ref3 (obj S (itm S a)) (obj S (itm S b)) = 1 := (by rw [i_2]; simp [obj, ref3]); have hM := mv_no (S := S) (a := a) (i := i) (b := b) (j := j) (n := n) (by rw [h1]; decide) hI; rw [h1] at hM; rw [show sp_move S a i b j n = (1, (s_u S, s_o S, s_s S, s_l S, upd (upd (upd (s_c S) 3 0) 4 1) 6 v4)) from by simp only [sp_move, hM, mvc, if_neg (show ¬ (1 : Int32) = 0 by decide), ev4]]; exact ⟨rfl, hRa3⟩) dX6_move_231 (by decide) (by decide)
  · refine lv_istore (lv' := [(6, .int (nI h)), (0, .ref x), (1, .int a), (2, .int i), (3, .int b), (4, .int j), (5, .int n)]) hx hb dX6_move_5 hl (by decide) rfl (fun ls hl => ?_)
    refine lv_aload_n hx hb dX6_move_7 rfl (lv_at hl 1 rfl) ?_
    refine lv_iload_n hx hb dX6_move_8 rfl (lv_at hl 4 rfl) ?_
    refine kx_in S9 w hR hI gX6_move_X6_in hl.1 (Nat.le_of_ble_eq_true rfl) dX6_move_9 ⟨Nat.le_of_ble_eq_true rfl, Nat.le_of_ble_eq_true rfl⟩ ⟨Nat.le_of_ble_eq_true rfl, Nat.le_of_ble_eq_true rfl⟩ (fun i_9 => ?_) (fun h9 o9 i_9 ho9 => ?_)
    · refine lv_istore (lv' := [(7, .int (-1)), (6, .int (nI h)), (0, .ref x), (1, .int a), (2, .int i), (3, .int b), (4, .int j), (5, .int n)]) hx hb dX6_move_12 hl (by decide) rfl (fun ls hl => ?_)
      refine lv_aload_n hx hb dX6_move_14 rfl (lv_at hl 2 rfl) ?_
      refine lv_iconst (v := 0) hx hb dX6_move_15 (by decide) ?_
      refine r_put (ref := "SpanMoverModel") S9 w m1 rfl (by decide +kernel) tyX6_ok nmX6 7 (by decide) (by decide +kernel) (Or.inl rfl) rfl rfl rfl (Nat.le_of_ble_eq_true rfl) dX6_move_16 (fun wsa1 Ha1 lca1 ua1 wa1 => ?_)
      have hRa1 := RpM.sc (f := upd (s_c S) 3 0) w.2.1 hR m1 ua1 rfl
      replace hRa1 : RpM G x ha at_ li (s_u S, s_o S, s_s S, s_l S, upd (s_c S) 3 0) wsa1 := hRa1
      obtain ⟨hfa1, afa1, m1a1, m2a1, m3a1, m4a1, m5a1, m6a1⟩ := id hRa1
      have xa1 : hp wsa1 x (.inr (4, [.ref ha, .int (nI (s_u S)), .ref at_, .ref li, .int (s_c S 0), .int (s_c S 2), .int (s_c S 4), .int (0 : Int32), .int (s_c S 5), .int (s_c S 6)])) := m1a1
      refine lv_aload_n hx hb dX6_move_19 rfl (lv_at hl 2 rfl) ?_
      refine lv_aload_n hx hb dX6_move_20 rfl (lv_at hl 2 rfl) ?_
      refine lv_iload hx hb dX6_move_21 (lv_at hl 1 rfl) ?_
      refine lv_iload_n hx hb dX6_move_23 rfl (lv_at hl 4 rfl) ?_
      refine lv_iload hx hb dX6_move_24 (lv_at hl 0 rfl) ?_
      refine lv_iload hx hb dX6_move_26 (lv_at hl 6 rfl) ?_
      refine lv_iload hx hb dX6_move_28 (lv_at hl 7 rfl) ?_
      refine k_vi S9 wa1 (c_mbars_M l _ h (hI.hd ho) i j n) xa1 rfl (cwV 5 hts gX6_move_X6_bars rfl rfl rfl (by decide +kernel) ⟨Nat.le_of_ble_eq_true rfl, Nat.le_of_ble_eq_true rfl⟩) rfl hl.1 rfl (Nat.le_of_ble_eq_true rfl) dX6_move_30 ⟨Nat.le_of_ble_eq_true rfl, Nat.le_of_ble_eq_true rfl⟩ (fun r5 er5 => ?_)
      subst er5
      refine r_put (ref := "SpanMoverModel") S9 wa1 xa1 rfl (by decide +kernel) tyX6_ok nmX6 6 (by decide) (by decide +kernel) (Or.inl rfl) rfl rfl rfl (Nat.le_of_ble_eq_true rfl) dX6_move_33 (fun wsa2 Ha2 lca2 ua2 wa2 => ?_)
      have hRa2 := RpM.sc (f := upd (upd (s_c S) 3 0) 4 1) wa1.2.1 hRa1 xa1 ua2 rfl
      replace hRa2 : RpM G x ha at_ li (s_u S, s_o S, s_s S, s_l S, upd (upd (s_c S) 3 0) 4 1) wsa2 := hRa2
      obtain ⟨hfa2, afa2, m1a2, m2a2, m3a2, m4a2, m5a2, m6a2⟩ := id hRa2
      have xa2 : hp wsa2 x (.inr (4, [.ref ha, .int (nI (s_u S)), .ref at_, .ref li, .int (s_c S 0), .int (s_c S 2), .int (1 : Int32), .int (0 : Int32), .int (s_c S 5), .int (s_c S 6)])) := m1a2
      refine lv_aload_n hx hb dX6_move_36 rfl (lv_at hl 2 rfl) ?_
      refine r_get (ref := "SpanMoverModel") S9 wa2 xa2 rfl (by decide +kernel) 6 (by decide) (by decide +kernel) (Or.inl rfl) rfl dX6_move_37 ?_
      refine lv_if_ne (tgt := 197) hx hb dX6_move_40 (by decide) (fun c_40 => ?_) (fun c_40 => absurd c_40 (by decide))
      refine lv_aload_n hx hb dX6_move_197 rfl (lv_at hl 2 rfl) ?_
      refine r_get (ref := "SpanMoverModel") S9 wa2 xa2 rfl (by decide +kernel) 6 (by decide) (by decide +kernel) (Or.inl rfl) rfl dX6_move_198 ?_
      refine lv_if_ne (tgt := 217) hx hb dX6_move_201 (by decide) (fun c_201 => ?_) (fun c_201 => absurd c_201 (by decide))
      refine lv_aload_n hx hb dX6_move_217 rfl (lv_at hl 2 rfl) ?_
      refine lv_dup hx hb dX6_move_218 rfl ?_
      refine r_get (ref := "SpanMoverModel") S9 wa2 xa2 rfl (by decide +kernel) 9 (by decide) (by decide +kernel) (Or.inl rfl) rfl dX6_move_219 ?_
      refine lv_iconst (v := 1) hx hb dX6_move_222 (by decide) ?_
      refine lv_iadd hx hb dX6_move_223 ?_
      refine lv_topi (fun v6 ev6 => ?_)
      refine r_put (ref := "SpanMoverModel") S9 wa2 xa2 rfl (by decide +kernel) tyX6_ok nmX6 9 (by decide) (by decide +kernel) (Or.inl rfl) rfl rfl rfl (Nat.le_of_ble_eq_true rfl) dX6_move_224 (fun wsa3 Ha3 lca3 ua3 wa3 => ?_)
      have hRa3 := RpM.sc (f := upd (upd (upd (s_c S) 3 0) 4 1) 6 v6) wa2.2.1 hRa2 xa2 ua3 rfl
      replace hRa3 : RpM G x ha at_ li (s_u S, s_o S, s_s S, s_l S, upd (upd (upd (s_c S) 3 0) 4 1) 6 v6) wsa3 := hRa3
      obtain ⟨hfa3, afa3, m1a3, m2a3, m3a3, m4a3, m5a3, m6a3⟩ := id hRa3
      have xa3 : hp wsa3 x (.inr (4, [.ref ha, .int (nI (s_u S)), .ref at_, .ref li, .int (s_c S 0), .int (s_c S 2), .int (1 : Int32), .int (0 : Int32), .int (s_c S 5), .int v6])) := m1a3
      refine lv_aload_n hx hb dX6_move_227 rfl (lv_at hl 2 rfl) ?_
      refine r_get (ref := "SpanMoverModel") S9 wa3 xa3 rfl (by decide +kernel) 6 (by decide) (by decide +kernel) (Or.inl rfl) rfl dX6_move_228 ?_
      exact ew_i S9 hr hlk wa3 (by have h1 : ref3 (obj S (itm S a)) (obj S (itm S b)) = 1 := (by rw [i_9, obj_some i_2 ho]; simp [obj, ref3]); have hM := mv_no (S := S) (a := a) (i := i) (b := b) (j := j) (n := n) (by rw [h1]; decide) hI; rw [h1] at hM; rw [show sp_move S a i b j n = (1, (s_u S, s_o S, s_s S, s_l S, upd (upd (upd (s_c S) 3 0) 4 1) 6 v6)) from by simp only [sp_move, hM, mvc, if_neg (show ¬ (1 : Int32) = 0 by decide), ev6]]; exact ⟨rfl, hRa3⟩) dX6_move_231 (by decide) (by decide)
    · refine lv_istore (lv' := [(7, .int (nI h9)), (6, .int (nI h)), (0, .ref x), (1, .int a), (2, .int i), (3, .int b), (4, .int j), (5, .int n)]) hx hb dX6_move_12 hl (by decide) rfl (fun ls hl => ?_)
      refine lv_aload_n hx hb dX6_move_14 rfl (lv_at hl 2 rfl) ?_
      refine lv_iconst (v := 0) hx hb dX6_move_15 (by decide) ?_
      refine r_put (ref := "SpanMoverModel") S9 w m1 rfl (by decide +kernel) tyX6_ok nmX6 7 (by decide) (by decide +kernel) (Or.inl rfl) rfl rfl rfl (Nat.le_of_ble_eq_true rfl) dX6_move_16 (fun wsa1 Ha1 lca1 ua1 wa1 => ?_)
      have hRa1 := RpM.sc (f := upd (s_c S) 3 0) w.2.1 hR m1 ua1 rfl
      replace hRa1 : RpM G x ha at_ li (s_u S, s_o S, s_s S, s_l S, upd (s_c S) 3 0) wsa1 := hRa1
      obtain ⟨hfa1, afa1, m1a1, m2a1, m3a1, m4a1, m5a1, m6a1⟩ := id hRa1
      have xa1 : hp wsa1 x (.inr (4, [.ref ha, .int (nI (s_u S)), .ref at_, .ref li, .int (s_c S 0), .int (s_c S 2), .int (s_c S 4), .int (0 : Int32), .int (s_c S 5), .int (s_c S 6)])) := m1a1
      refine lv_aload_n hx hb dX6_move_19 rfl (lv_at hl 2 rfl) ?_
      refine lv_aload_n hx hb dX6_move_20 rfl (lv_at hl 2 rfl) ?_
      refine lv_iload hx hb dX6_move_21 (lv_at hl 1 rfl) ?_
      refine lv_iload_n hx hb dX6_move_23 rfl (lv_at hl 4 rfl) ?_
      refine lv_iload hx hb dX6_move_24 (lv_at hl 0 rfl) ?_
      refine lv_iload hx hb dX6_move_26 (lv_at hl 6 rfl) ?_
      refine lv_iload hx hb dX6_move_28 (lv_at hl 7 rfl) ?_
      refine k_vi S9 wa1 (u_mbars l _ hRa1 (Inv.sc hI (upd (s_c S) 3 0) rfl rfl) ho ho9 i j n) xa1 rfl (cwV 5 hts gX6_move_X6_bars rfl rfl rfl (by decide +kernel) ⟨Nat.le_of_ble_eq_true rfl, Nat.le_of_ble_eq_true rfl⟩) rfl hl.1 rfl (Nat.le_of_ble_eq_true rfl) dX6_move_30 ⟨Nat.le_of_ble_eq_true rfl, Nat.le_of_ble_eq_true rfl⟩ (fun v7 e7 => ?_)
      refine r_put (ref := "SpanMoverModel") S9 wa1 xa1 rfl (by decide +kernel) tyX6_ok nmX6 6 (by decide) (by decide +kernel) (Or.inl rfl) rfl rfl rfl (Nat.le_of_ble_eq_true rfl) dX6_move_33 (fun wsa2 Ha2 lca2 ua2 wa2 => ?_)
      have hRa2 := RpM.sc (f := upd (upd (s_c S) 3 0) 4 v7) wa1.2.1 hRa1 xa1 ua2 rfl
      replace hRa2 : RpM G x ha at_ li (s_u S, s_o S, s_s S, s_l S, upd (upd (s_c S) 3 0) 4 v7) wsa2 := hRa2
      obtain ⟨hfa2, afa2, m1a2, m2a2, m3a2, m4a2, m5a2, m6a2⟩ := id hRa2
      have xa2 : hp wsa2 x (.inr (4, [.ref ha, .int (nI (s_u S)), .ref at_, .ref li, .int (s_c S 0), .int (s_c S 2), .int v7, .int (0 : Int32), .int (s_c S 5), .int (s_c S 6)])) := m1a2
      refine lv_aload_n hx hb dX6_move_36 rfl (lv_at hl 2 rfl) ?_
      refine r_get (ref := "SpanMoverModel") S9 wa2 xa2 rfl (by decide +kernel) 6 (by decide) (by decide +kernel) (Or.inl rfl) rfl dX6_move_37 ?_
      refine lv_if_ne (tgt := 197) hx hb dX6_move_40 (by decide) (fun c_40 => ?_) (fun c_40 => ?_)
      · refine lv_aload_n hx hb dX6_move_197 rfl (lv_at hl 2 rfl) ?_
        refine r_get (ref := "SpanMoverModel") S9 wa2 xa2 rfl (by decide +kernel) 6 (by decide) (by decide +kernel) (Or.inl rfl) rfl dX6_move_198 ?_
        refine lv_if_ne (tgt := 217) hx hb dX6_move_201 (by decide) (fun c_201 => ?_) (fun c_201 => absurd c_201 c_40)
        refine lv_aload_n hx hb dX6_move_217 rfl (lv_at hl 2 rfl) ?_
        refine lv_dup hx hb dX6_move_218 rfl ?_
        refine r_get (ref := "SpanMoverModel") S9 wa2 xa2 rfl (by decide +kernel) 9 (by decide) (by decide +kernel) (Or.inl rfl) rfl dX6_move_219 ?_
        refine lv_iconst (v := 1) hx hb dX6_move_222 (by decide) ?_
        refine lv_iadd hx hb dX6_move_223 ?_
        refine lv_topi (fun v8 ev8 => ?_)
        refine r_put (ref := "SpanMoverModel") S9 wa2 xa2 rfl (by decide +kernel) tyX6_ok nmX6 9 (by decide) (by decide +kernel) (Or.inl rfl) rfl rfl rfl (Nat.le_of_ble_eq_true rfl) dX6_move_224 (fun wsa3 Ha3 lca3 ua3 wa3 => ?_)
        have hRa3 := RpM.sc (f := upd (upd (upd (s_c S) 3 0) 4 v7) 6 v8) wa2.2.1 hRa2 xa2 ua3 rfl
        replace hRa3 : RpM G x ha at_ li (s_u S, s_o S, s_s S, s_l S, upd (upd (upd (s_c S) 3 0) 4 v7) 6 v8) wsa3 := hRa3
        obtain ⟨hfa3, afa3, m1a3, m2a3, m3a3, m4a3, m5a3, m6a3⟩ := id hRa3
        have xa3 : hp wsa3 x (.inr (4, [.ref ha, .int (nI (s_u S)), .ref at_, .ref li, .int (s_c S 0), .int (s_c S 2), .int v7, .int (0 : Int32), .int (s_c S 5), .int v8])) := m1a3
        refine lv_aload_n hx hb dX6_move_227 rfl (lv_at hl 2 rfl) ?_
        refine r_get (ref := "SpanMoverModel") S9 wa3 xa3 rfl (by decide +kernel) 6 (by decide) (by decide +kernel) (Or.inl rfl) rfl dX6_move_228 ?_
        exact ew_i S9 hr hlk wa3 (by have hM := mv_bR (i := i) (j := j) (n := n) hI i_2 i_9 ho ho9 (by rw [← e7]; exact c_40); rw [← e7] at hM; rw [show sp_move S a i b j n = (v7, (s_u S, s_o S, s_s S, s_l S, upd (upd (upd (s_c S) 3 0) 4 v7) 6 v8)) from by simp only [sp_move, hM, mvc, if_neg c_40, ev8]]; exact ⟨rfl, hRa3⟩) dX6_move_231 (by decide) (by decide)
      · obtain ⟨h3, s1, s2⟩ := bR_zero (e7.symm.trans c_40)
        have n0 := (hI.ob ho).2
        have n9 := (hI.ob ho9).2
        obtain ⟨i', n', rfl, rfl, b0⟩ := inS_nI s1 n0
        obtain ⟨j', n2, rfl, e2, b9⟩ := inS_nI s2 n9
        have e2 := (nI_eq (by omega) (by omega)).mp e2
        subst e2
        have y1 : (nI i').toNatClampNeg = i' := nI_clamp (by omega)
        have y2 : (nI j').toNatClampNeg = j' := nI_clamp (by omega)
        have y3 : (nI n').toNatClampNeg = n' := nI_clamp (by omega)
        obtain ⟨k6, k9, hkk⟩ := ref3_zero h3
        have bh := hI.hd ho
        have bh9 := hI.hd ho9
        have bs := (hI.2.2.2.1 h o ho).2.2
        have bs9 := (hI.2.2.2.1 h9 o9 ho9).2.2
        have bu := hI.1
        have hMv := mv_ok (i := nI i') (j := nI j') (n := nI n') i_2 i_9 ho ho9 h3
        rcases (show (o_k o ≤ 3 ∧ o_k o9 ≤ 3) ∨ (4 ≤ o_k o ∧ 4 ≤ o_k o9) by omega) with ⟨hk, hk9⟩ | ⟨hk, hk9⟩
        · refine lv_iconst (v := 0) hx hb dX6_move_43 (by decide) ?_
          refine lv_istore (lv' := [(8, .int 0), (7, .int (nI h9)), (6, .int (nI h)), (0, .ref x), (1, .int a), (2, .int (nI i')), (3, .int b), (4, .int (nI j')), (5, .int (nI n'))]) hx hb dX6_move_44 hl (by decide) rfl (fun ls hl => ?_)
          obtain ⟨t, ht, hv⟩ : ∃ t : Nat, t ≤ n' ∧ (0 : Int32) = nI t := ⟨0, by omega, rfl⟩
          obtain ⟨v, hv0⟩ : ∃ v : Int32, v = 0 := ⟨_, rfl⟩
          replace hl : lv_has ls 12 [(8, .int v), (7, .int (nI h9)), (6, .int (nI h)), (0, .ref x), (1, .int a), (2, .int (nI i')), (3, .int b), (4, .int (nI j')), (5, .int (nI n'))] := by rw [hv0]; exact lv_sub hl [0, 1, 2, 3, 4, 5, 6, 7, 8] rfl
          rw [← hv0] at hv
          clear hv0
          obtain ⟨g, hg⟩ : ∃ g, n' - t < g := ⟨_, Nat.lt_succ_self _⟩
          induction g generalizing t v ls with
          | zero => exact absurd hg (Nat.not_lt_zero _)
          | succ g ih =>
            refine lv_iload hx hb dX6_move_46 (lv_at hl 0 rfl) ?_
            refine lv_iload hx hb dX6_move_48 (lv_at hl 8 rfl) ?_
            refine lv_icmp_ge (tgt := 91) hx hb dX6_move_50 (by decide) (fun c_50 => ?_) (fun c_50 => ?_)
            · have hT : n' = t := by
                have h4 := ge_nI hv ht (by omega) c_50
                exact h4.symm
              clear ih
              refine lv_iload hx hb dX6_move_91 (lv_at hl 2 rfl) ?_
              refine lv_iload hx hb dX6_move_93 (lv_at hl 1 rfl) ?_
              refine lv_icmp_ne (tgt := 108) hx hb dX6_move_95 (by decide) (fun c_95 => ?_) (fun c_95 => ?_)
              · have hne : h ≠ h9 := fun q => c_95 (by rw [q])
                have safe : ∀ z q, z < t → q < z → h + 1 + i' + z ≠ h9 + 1 + j' + q := fun z q hz hq => by
                  have := (seg hI ho ho9 hne (j := i' + z) (by omega)).2 (j' + q) (by omega)
                  omega
                refine lv_iconst (v := 0) hx hb dX6_move_108 (by decide) ?_
                refine lv_istore (lv' := [(9, .int 0), (8, .int v), (7, .int (nI h9)), (6, .int (nI h)), (0, .ref x), (1, .int a), (2, .int (nI i')), (3, .int b), (4, .int (nI j')), (5, .int (nI n'))]) hx hb dX6_move_109 hl (by decide) rfl (fun ls hl => ?_)
                refine lv_iconst (v := 0) hx hb dX6_move_111 (by decide) ?_
                refine lv_istore (lv' := [(10, .int 0), (9, .int 0), (8, .int v), (7, .int (nI h9)), (6, .int (nI h)), (0, .ref x), (1, .int a), (2, .int (nI i')), (3, .int b), (4, .int (nI j')), (5, .int (nI n'))]) hx hb dX6_move_112 hl (by decide) rfl (fun ls hl => ?_)
                obtain ⟨k, ws7, H7, lc7, hk7, hy, q1, q2, q3, q4, w7, eH, eL⟩ : ∃ (k : Nat) (ws7 : va_W) (H7 : Heap) (lc7 : List Loc), k ≤ t ∧ (0 : Int32) = nI k ∧ hp ws7 x (.inr (4, [.ref ha, .int (nI (s_u S)), .ref at_, .ref li, .int (s_c S 0), .int (s_c S 2), .int v7, .int (0 : Int32), .int (s_c S 5), .int (s_c S 6)])) ∧ hp ws7 ha (aJ G 60000 (va_cpy hfa2 hfa2 (h + 1 + i') (h9 + 1 + j') (k))) ∧ hp ws7 at_ (aI G 400 afa2) ∧ hp ws7 li (aI G 320 (s_l S)) ∧ Wd G (va_A ws s.heap.size) s ws7 H7 lc7 ∧ _ = H7 ∧ _ = lc7 := ⟨0, _, _, _, by omega, rfl, xa2, by simp only [va_cpy_0, Nat.sub_zero]; exact m2a2, m3a2, m4a2, wa2, rfl, rfl⟩
                refine W_at eH eL ?_
                clear eH eL
                obtain ⟨y, hy0⟩ : ∃ y : Int32, y = 0 := ⟨_, rfl⟩
                replace hl : lv_has ls 12 [(10, .int y), (9, .int 0), (8, .int v), (7, .int (nI h9)), (6, .int (nI h)), (0, .ref x), (1, .int a), (2, .int (nI i')), (3, .int b), (4, .int (nI j')), (5, .int (nI n'))] := by rw [hy0]; exact lv_sub hl [0, 1, 2, 3, 4, 5, 6, 7, 8, 9, 10] rfl
                rw [← hy0] at hy
                clear hy0
                obtain ⟨g2, hg⟩ : ∃ g2, t - k < g2 := ⟨_, Nat.lt_succ_self _⟩
                induction g2 generalizing k y ls ws7 H7 lc7 with
                | zero => exact absurd hg (Nat.not_lt_zero _)
                | succ g2 ih =>
                  refine lv_iload hx hb dX6_move_114 (lv_at hl 0 rfl) ?_
                  refine lv_iload hx hb dX6_move_116 (lv_at hl 2 rfl) ?_
                  refine lv_icmp_ge (tgt := 175) hx hb dX6_move_118 (by decide) (fun c_118 => ?_) (fun c_118 => ?_)
                  · have hkt : k = t := ge_nI (n := t) hy hk7 (by omega) (by rw [← hv]; exact c_118)
                    have q5 : hp ws7 ha (aJ G 60000 (va_cpy hfa2 hfa2 (h + 1 + i') (h9 + 1 + j') t)) := by
                      rw [hkt] at q2
                      exact q2
                    have hRq : RpM G x ha at_ li (s_u S, va_up (s_o S) h9 (some (o_setf o9 (va_cpy (o_f o) (o_f o9) i' j' t))), s_s S, s_l S, upd (upd (s_c S) 3 0) 4 v7) ws7 := ⟨_, _, q1, q5, q3, q4, m5a2, HpM.cpyN hI m6a2 ho ho9 hk hk9 (by omega) (by omega)⟩
                    refine lv_aload_n hx hb dX6_move_175 rfl (lv_at hl 5 rfl) ?_
                    refine lv_iload hx hb dX6_move_176 (lv_at hl 2 rfl) ?_
                    refine r_put (ref := "SpanMoverModel") S9 w7 q1 rfl (by decide +kernel) tyX6_ok nmX6 7 (by decide) (by decide +kernel) (Or.inl rfl) rfl rfl rfl (Nat.le_of_ble_eq_true rfl) dX6_move_178 (fun wsa3 Ha3 lca3 ua3 wa3 => ?_)
                    have hRa3 := RpM.sc (f := upd (upd (upd (s_c S) 3 0) 4 v7) 3 v) w7.2.1 hRq q1 ua3 rfl
                    replace hRa3 : RpM G x ha at_ li (s_u S, va_up (s_o S) h9 (some (o_setf o9 (va_cpy (o_f o) (o_f o9) i' j' t))), s_s S, s_l S, upd (upd (upd (s_c S) 3 0) 4 v7) 3 v) wsa3 := hRa3
                    obtain ⟨hfa3, afa3, m1a3, m2a3, m3a3, m4a3, m5a3, m6a3⟩ := id hRa3
                    have xa3 : hp wsa3 x (.inr (4, [.ref ha, .int (nI (s_u S)), .ref at_, .ref li, .int (s_c S 0), .int (s_c S 2), .int v7, .int v, .int (s_c S 5), .int (s_c S 6)])) := m1a3
                    refine lv_aload_n hx hb dX6_move_181 rfl (lv_at hl 5 rfl) ?_
                    refine lv_iload hx hb dX6_move_182 (lv_at hl 2 rfl) ?_
                    refine lv_iload hx hb dX6_move_184 (lv_at hl 10 rfl) ?_
                    refine lv_icmp_ge (tgt := 193) hx hb dX6_move_186 (by decide) (fun c_186 => ?_) (fun c_186 => absurd (by rw [hv, ← hT]; exact Int32.le_refl _) c_186)
                    refine lv_iconst (v := 0) hx hb dX6_move_193 (by decide) ?_
                    refine r_put (ref := "SpanMoverModel") S9 wa3 xa3 rfl (by decide +kernel) tyX6_ok nmX6 6 (by decide) (by decide +kernel) (Or.inl rfl) rfl rfl rfl (Nat.le_of_ble_eq_true rfl) dX6_move_194 (fun wsa4 Ha4 lca4 ua4 wa4 => ?_)
                    have hRa4 := RpM.sc (f := upd (upd (upd (upd (s_c S) 3 0) 4 v7) 3 v) 4 0) wa3.2.1 hRa3 xa3 ua4 rfl
                    replace hRa4 : RpM G x ha at_ li (s_u S, va_up (s_o S) h9 (some (o_setf o9 (va_cpy (o_f o) (o_f o9) i' j' t))), s_s S, s_l S, upd (upd (upd (upd (s_c S) 3 0) 4 v7) 3 v) 4 0) wsa4 := hRa4
                    obtain ⟨hfa4, afa4, m1a4, m2a4, m3a4, m4a4, m5a4, m6a4⟩ := id hRa4
                    have xa4 : hp wsa4 x (.inr (4, [.ref ha, .int (nI (s_u S)), .ref at_, .ref li, .int (s_c S 0), .int (s_c S 2), .int (0 : Int32), .int v, .int (s_c S 5), .int (s_c S 6)])) := m1a4
                    refine lv_aload_n hx hb dX6_move_197 rfl (lv_at hl 5 rfl) ?_
                    refine r_get (ref := "SpanMoverModel") S9 wa4 xa4 rfl (by decide +kernel) 6 (by decide) (by decide +kernel) (Or.inl rfl) rfl dX6_move_198 ?_
                    refine lv_if_ne (tgt := 217) hx hb dX6_move_201 (by decide) (fun c_201 => absurd c_201 (by decide)) (fun c_201 => ?_)
                    refine lv_aload_n hx hb dX6_move_204 rfl (lv_at hl 5 rfl) ?_
                    refine lv_dup hx hb dX6_move_205 rfl ?_
                    refine r_get (ref := "SpanMoverModel") S9 wa4 xa4 rfl (by decide +kernel) 8 (by decide) (by decide +kernel) (Or.inl rfl) rfl dX6_move_206 ?_
                    refine lv_iconst (v := 1) hx hb dX6_move_209 (by decide) ?_
                    refine lv_iadd hx hb dX6_move_210 ?_
                    refine lv_topi (fun v9 ev9 => ?_)
                    refine r_put (ref := "SpanMoverModel") S9 wa4 xa4 rfl (by decide +kernel) tyX6_ok nmX6 8 (by decide) (by decide +kernel) (Or.inl rfl) rfl rfl rfl (Nat.le_of_ble_eq_true rfl) dX6_move_211 (fun wsa5 Ha5 lca5 ua5 wa5 => ?_)
                    have hRa5 := RpM.sc (f := upd (upd (upd (upd (upd (s_c S) 3 0) 4 v7) 3 v) 4 0) 5 v9) wa4.2.1 hRa4 xa4 ua5 rfl
                    replace hRa5 : RpM G x ha at_ li (s_u S, va_up (s_o S) h9 (some (o_setf o9 (va_cpy (o_f o) (o_f o9) i' j' t))), s_s S, s_l S, upd (upd (upd (upd (upd (s_c S) 3 0) 4 v7) 3 v) 4 0) 5 v9) wsa5 := hRa5
                    obtain ⟨hfa5, afa5, m1a5, m2a5, m3a5, m4a5, m5a5, m6a5⟩ := id hRa5
                    have xa5 : hp wsa5 x (.inr (4, [.ref ha, .int (nI (s_u S)), .ref at_, .ref li, .int (s_c S 0), .int (s_c S 2), .int (0 : Int32), .int v, .int v9, .int (s_c S 6)])) := m1a5
                    refine lv_goto (tgt := 227) hx hb dX6_move_214 (by decide) ?_
                    refine lv_aload_n hx hb dX6_move_227 rfl (lv_at hl 5 rfl) ?_
                    refine r_get (ref := "SpanMoverModel") S9 wa5 xa5 rfl (by decide +kernel) 6 (by decide) (by decide +kernel) (Or.inl rfl) rfl dX6_move_228 ?_
                    exact ew_i S9 hr hlk wa5 (by have hM2 : mvR S h9 o o9 (nI i') (nI j') (nI n') = (0, v, va_up (s_o S) h9 (some (o_setf o9 (va_cpy (o_f o) (o_f o9) i' j' t)))) := (by unfold mvR; rw [if_neg (fun q => q s1), if_neg (fun q => q s2), if_pos hk9, y1, y2, y3, hv, ← hT]); rw [show sp_move S a (nI i') b (nI j') (nI n') = (0, (s_u S, va_up (s_o S) h9 (some (o_setf o9 (va_cpy (o_f o) (o_f o9) i' j' t))), s_s S, s_l S, upd (upd (upd (upd (upd (s_c S) 3 0) 4 v7) 3 v) 4 0) 5 v9)) from by simp only [sp_move, hMv, hM2, mvc, if_pos, ev9, upd_43]]; exact ⟨rfl, hRa5⟩) dX6_move_231 (by decide) (by decide)
                  · refine lv_iload hx hb dX6_move_121 (lv_at hl 1 rfl) ?_
                    refine lv_if_eq (tgt := 136) hx hb dX6_move_123 (by decide) (fun c_123 => ?_) (fun c_123 => absurd c_123 (by decide))
                    refine lv_iload hx hb dX6_move_136 (lv_at hl 0 rfl) ?_
                    have hk8 := nge_nI (n := t) hy hk7 (by omega) (by rw [← hv]; exact c_118)
                    have he1 : y = nI k := hy
                    refine lv_istore (lv' := [(11, .int y), (10, .int y), (9, .int 0), (8, .int v), (7, .int (nI h9)), (6, .int (nI h)), (0, .ref x), (1, .int a), (2, .int (nI i')), (3, .int b), (4, .int (nI j')), (5, .int (nI n'))]) hx hb dX6_move_138 hl (by decide) rfl (fun ls hl => ?_)
                    refine lv_aload_n hx hb dX6_move_140 rfl (lv_at hl 6 rfl) ?_
                    refine r_get (ref := "SpanMoverModel") S9 w7 q1 rfl (by decide +kernel) 0 (by decide) (by decide +kernel) (Or.inl rfl) rfl dX6_move_141 ?_
                    refine lv_iload hx hb dX6_move_144 (lv_at hl 4 rfl) ?_
                    refine lv_iconst (v := 1) hx hb dX6_move_146 (by decide) ?_
                    refine lv_iadd hx hb dX6_move_147 ?_
                    refine lv_topi (fun v10 ev10 => ?_)
                    refine lv_iload hx hb dX6_move_148 (lv_at hl 10 rfl) ?_
                    refine lv_iadd hx hb dX6_move_150 ?_
                    refine lv_topi (fun v11 ev11 => ?_)
                    refine lv_iload hx hb dX6_move_151 (lv_at hl 0 rfl) ?_
                    refine lv_iadd hx hb dX6_move_153 ?_
                    refine lv_topi (fun v12 ev12 => ?_)
                    refine lv_aload_n hx hb dX6_move_154 rfl (lv_at hl 6 rfl) ?_
                    refine r_get (ref := "SpanMoverModel") S9 w7 q1 rfl (by decide +kernel) 0 (by decide) (by decide +kernel) (Or.inl rfl) rfl dX6_move_155 ?_
                    refine lv_iload hx hb dX6_move_158 (lv_at hl 5 rfl) ?_
                    refine lv_iconst (v := 1) hx hb dX6_move_160 (by decide) ?_
                    refine lv_iadd hx hb dX6_move_161 ?_
                    refine lv_topi (fun v13 ev13 => ?_)
                    refine lv_iload_n hx hb dX6_move_162 rfl (lv_at hl 8 rfl) ?_
                    refine lv_iadd hx hb dX6_move_163 ?_
                    refine lv_topi (fun v14 ev14 => ?_)
                    refine lv_iload hx hb dX6_move_164 (lv_at hl 0 rfl) ?_
                    refine lv_iadd hx hb dX6_move_166 ?_
                    refine lv_topi (fun v15 ev15 => ?_)
                    refine r_lald S9 w7 q2 (by rw [show v15 = nI (h + 1 + i' + (k)) from by rw [ev15, ev14, ev13, he1]; exact idx3]; exact vp_in_nI (by omega) (by decide)) dX6_move_167 ?_
                    refine lv_topl (fun v16 ev16 => ?_)
                    have xB : v12 = nI (h9 + 1 + j' + (k)) := by rw [ev12, ev11, ev10, he1]; exact idx3
                    have xA : v15 = nI (h + 1 + i' + (k)) := by rw [ev15, ev14, ev13, he1]; exact idx3
                    refine r_last S9 w7 q2 (by rw [xB]; exact vp_in_nI (by omega) (by decide)) dX6_move_168 (fun ws8 H8 lc8 u8 w8 => ?_)
                    have nn8 := mne w7.2.1 q1 q2 q3 q4
                    have hval : v16 = hfa2 (h + 1 + i' + k) := by rw [ev16, cl_nI xA (by omega)]; exact cpy_fw (fun q hq => safe k q hk8 hq)
                    have hq2 : hp ws8 ha (aJ G 60000 (va_cpy hfa2 hfa2 (h + 1 + i') (h9 + 1 + j') (k + 1))) := by
                      have h8 := u8.1
                      rw [cl_nI xB (by omega), hval, cpy_fw1] at h8
                      exact h8
                    obtain ⟨v17, ev17⟩ : ∃ z : Int32, z = y + 1 := ⟨_, rfl⟩
                    refine lv_iinc (v := v17) (lv' := [(10, .int v17), (11, .int y), (9, .int 0), (8, .int v), (7, .int (nI h9)), (6, .int (nI h)), (0, .ref x), (1, .int a), (2, .int (nI i')), (3, .int b), (4, .int (nI j')), (5, .int (nI n'))]) hx hb dX6_move_169 hl (k := 1) rfl (by rw [ev17]; rfl) (by decide) rfl (fun ls hl => ?_)
                    refine lv_goto (tgt := 114) hx hb dX6_move_172 (by decide) ?_
                    exact ih (ls := ls) (k := k + 1) (y := v17) (ws7 := ws8) (H7 := H8) (lc7 := lc8) (hk7 := by omega) (hy := by rw [ev17, hy]; exact nI_1 k) (q1 := u8.keep nn8.1.1 q1) (q2 := hq2) (q3 := u8.keep nn8.2.1.symm q3) (q4 := u8.keep nn8.2.2.1.symm q4) (w7 := w8) (hl := lv_sub hl [0, 2, 3, 4, 5, 6, 7, 8, 9, 10, 11] rfl) (hg := by omega)
              · have heq : h = h9 := (nI_eq (by omega) (by omega)).mp c_95
                refine lv_iload_n hx hb dX6_move_98 rfl (lv_at hl 5 rfl) ?_
                refine lv_iload hx hb dX6_move_99 (lv_at hl 7 rfl) ?_
                refine lv_icmp_ge (tgt := 108) hx hb dX6_move_101 (by decide) (fun c_101 => ?_) (fun c_101 => ?_)
                · have hle := (nI_leI (by omega) (by omega)).mp c_101
                  have safe : ∀ z q, z < t → q < z → h + 1 + i' + z ≠ h9 + 1 + j' + q := fun z q hz hq => by omega
                  refine lv_iconst (v := 0) hx hb dX6_move_108 (by decide) ?_
                  refine lv_istore (lv' := [(9, .int 0), (8, .int v), (7, .int (nI h9)), (6, .int (nI h)), (0, .ref x), (1, .int a), (2, .int (nI i')), (3, .int b), (4, .int (nI j')), (5, .int (nI n'))]) hx hb dX6_move_109 hl (by decide) rfl (fun ls hl => ?_)
                  refine lv_iconst (v := 0) hx hb dX6_move_111 (by decide) ?_
                  refine lv_istore (lv' := [(10, .int 0), (9, .int 0), (8, .int v), (7, .int (nI h9)), (6, .int (nI h)), (0, .ref x), (1, .int a), (2, .int (nI i')), (3, .int b), (4, .int (nI j')), (5, .int (nI n'))]) hx hb dX6_move_112 hl (by decide) rfl (fun ls hl => ?_)
                  obtain ⟨k, ws7, H7, lc7, hk7, hy, q1, q2, q3, q4, w7, eH, eL⟩ : ∃ (k : Nat) (ws7 : va_W) (H7 : Heap) (lc7 : List Loc), k ≤ t ∧ (0 : Int32) = nI k ∧ hp ws7 x (.inr (4, [.ref ha, .int (nI (s_u S)), .ref at_, .ref li, .int (s_c S 0), .int (s_c S 2), .int v7, .int (0 : Int32), .int (s_c S 5), .int (s_c S 6)])) ∧ hp ws7 ha (aJ G 60000 (va_cpy hfa2 hfa2 (h + 1 + i') (h9 + 1 + j') (k))) ∧ hp ws7 at_ (aI G 400 afa2) ∧ hp ws7 li (aI G 320 (s_l S)) ∧ Wd G (va_A ws s.heap.size) s ws7 H7 lc7 ∧ _ = H7 ∧ _ = lc7 := ⟨0, _, _, _, by omega, rfl, xa2, by simp only [va_cpy_0, Nat.sub_zero]; exact m2a2, m3a2, m4a2, wa2, rfl, rfl⟩
                  refine W_at eH eL ?_
                  clear eH eL
                  obtain ⟨y, hy0⟩ : ∃ y : Int32, y = 0 := ⟨_, rfl⟩
                  replace hl : lv_has ls 12 [(10, .int y), (9, .int 0), (8, .int v), (7, .int (nI h9)), (6, .int (nI h)), (0, .ref x), (1, .int a), (2, .int (nI i')), (3, .int b), (4, .int (nI j')), (5, .int (nI n'))] := by rw [hy0]; exact lv_sub hl [0, 1, 2, 3, 4, 5, 6, 7, 8, 9, 10] rfl
                  rw [← hy0] at hy
                  clear hy0
                  obtain ⟨g2, hg⟩ : ∃ g2, t - k < g2 := ⟨_, Nat.lt_succ_self _⟩
                  induction g2 generalizing k y ls ws7 H7 lc7 with
                  | zero => exact absurd hg (Nat.not_lt_zero _)
                  | succ g2 ih =>
                    refine lv_iload hx hb dX6_move_114 (lv_at hl 0 rfl) ?_
                    refine lv_iload hx hb dX6_move_116 (lv_at hl 2 rfl) ?_
                    refine lv_icmp_ge (tgt := 175) hx hb dX6_move_118 (by decide) (fun c_118 => ?_) (fun c_118 => ?_)
                    · have hkt : k = t := ge_nI (n := t) hy hk7 (by omega) (by rw [← hv]; exact c_118)
                      have q5 : hp ws7 ha (aJ G 60000 (va_cpy hfa2 hfa2 (h + 1 + i') (h9 + 1 + j') t)) := by
                        rw [hkt] at q2
                        exact q2
                      have hRq : RpM G x ha at_ li (s_u S, va_up (s_o S) h9 (some (o_setf o9 (va_cpy (o_f o) (o_f o9) i' j' t))), s_s S, s_l S, upd (upd (s_c S) 3 0) 4 v7) ws7 := ⟨_, _, q1, q5, q3, q4, m5a2, HpM.cpyN hI m6a2 ho ho9 hk hk9 (by omega) (by omega)⟩
                      refine lv_aload_n hx hb dX6_move_175 rfl (lv_at hl 5 rfl) ?_
                      refine lv_iload hx hb dX6_move_176 (lv_at hl 2 rfl) ?_
                      refine r_put (ref := "SpanMoverModel") S9 w7 q1 rfl (by decide +kernel) tyX6_ok nmX6 7 (by decide) (by decide +kernel) (Or.inl rfl) rfl rfl rfl (Nat.le_of_ble_eq_true rfl) dX6_move_178 (fun wsa3 Ha3 lca3 ua3 wa3 => ?_)
                      have hRa3 := RpM.sc (f := upd (upd (upd (s_c S) 3 0) 4 v7) 3 v) w7.2.1 hRq q1 ua3 rfl
                      replace hRa3 : RpM G x ha at_ li (s_u S, va_up (s_o S) h9 (some (o_setf o9 (va_cpy (o_f o) (o_f o9) i' j' t))), s_s S, s_l S, upd (upd (upd (s_c S) 3 0) 4 v7) 3 v) wsa3 := hRa3
                      obtain ⟨hfa3, afa3, m1a3, m2a3, m3a3, m4a3, m5a3, m6a3⟩ := id hRa3
                      have xa3 : hp wsa3 x (.inr (4, [.ref ha, .int (nI (s_u S)), .ref at_, .ref li, .int (s_c S 0), .int (s_c S 2), .int v7, .int v, .int (s_c S 5), .int (s_c S 6)])) := m1a3
                      refine lv_aload_n hx hb dX6_move_181 rfl (lv_at hl 5 rfl) ?_
                      refine lv_iload hx hb dX6_move_182 (lv_at hl 2 rfl) ?_
                      refine lv_iload hx hb dX6_move_184 (lv_at hl 10 rfl) ?_
                      refine lv_icmp_ge (tgt := 193) hx hb dX6_move_186 (by decide) (fun c_186 => ?_) (fun c_186 => absurd (by rw [hv, ← hT]; exact Int32.le_refl _) c_186)
                      refine lv_iconst (v := 0) hx hb dX6_move_193 (by decide) ?_
                      refine r_put (ref := "SpanMoverModel") S9 wa3 xa3 rfl (by decide +kernel) tyX6_ok nmX6 6 (by decide) (by decide +kernel) (Or.inl rfl) rfl rfl rfl (Nat.le_of_ble_eq_true rfl) dX6_move_194 (fun wsa4 Ha4 lca4 ua4 wa4 => ?_)
                      have hRa4 := RpM.sc (f := upd (upd (upd (upd (s_c S) 3 0) 4 v7) 3 v) 4 0) wa3.2.1 hRa3 xa3 ua4 rfl
                      replace hRa4 : RpM G x ha at_ li (s_u S, va_up (s_o S) h9 (some (o_setf o9 (va_cpy (o_f o) (o_f o9) i' j' t))), s_s S, s_l S, upd (upd (upd (upd (s_c S) 3 0) 4 v7) 3 v) 4 0) wsa4 := hRa4
                      obtain ⟨hfa4, afa4, m1a4, m2a4, m3a4, m4a4, m5a4, m6a4⟩ := id hRa4
                      have xa4 : hp wsa4 x (.inr (4, [.ref ha, .int (nI (s_u S)), .ref at_, .ref li, .int (s_c S 0), .int (s_c S 2), .int (0 : Int32), .int v, .int (s_c S 5), .int (s_c S 6)])) := m1a4
                      refine lv_aload_n hx hb dX6_move_197 rfl (lv_at hl 5 rfl) ?_
                      refine r_get (ref := "SpanMoverModel") S9 wa4 xa4 rfl (by decide +kernel) 6 (by decide) (by decide +kernel) (Or.inl rfl) rfl dX6_move_198 ?_
                      refine lv_if_ne (tgt := 217) hx hb dX6_move_201 (by decide) (fun c_201 => absurd c_201 (by decide)) (fun c_201 => ?_)
                      refine lv_aload_n hx hb dX6_move_204 rfl (lv_at hl 5 rfl) ?_
                      refine lv_dup hx hb dX6_move_205 rfl ?_
                      refine r_get (ref := "SpanMoverModel") S9 wa4 xa4 rfl (by decide +kernel) 8 (by decide) (by decide +kernel) (Or.inl rfl) rfl dX6_move_206 ?_
                      refine lv_iconst (v := 1) hx hb dX6_move_209 (by decide) ?_
                      refine lv_iadd hx hb dX6_move_210 ?_
                      refine lv_topi (fun v18 ev18 => ?_)
                      refine r_put (ref := "SpanMoverModel") S9 wa4 xa4 rfl (by decide +kernel) tyX6_ok nmX6 8 (by decide) (by decide +kernel) (Or.inl rfl) rfl rfl rfl (Nat.le_of_ble_eq_true rfl) dX6_move_211 (fun wsa5 Ha5 lca5 ua5 wa5 => ?_)
                      have hRa5 := RpM.sc (f := upd (upd (upd (upd (upd (s_c S) 3 0) 4 v7) 3 v) 4 0) 5 v18) wa4.2.1 hRa4 xa4 ua5 rfl
                      replace hRa5 : RpM G x ha at_ li (s_u S, va_up (s_o S) h9 (some (o_setf o9 (va_cpy (o_f o) (o_f o9) i' j' t))), s_s S, s_l S, upd (upd (upd (upd (upd (s_c S) 3 0) 4 v7) 3 v) 4 0) 5 v18) wsa5 := hRa5
                      obtain ⟨hfa5, afa5, m1a5, m2a5, m3a5, m4a5, m5a5, m6a5⟩ := id hRa5
                      have xa5 : hp wsa5 x (.inr (4, [.ref ha, .int (nI (s_u S)), .ref at_, .ref li, .int (s_c S 0), .int (s_c S 2), .int (0 : Int32), .int v, .int v18, .int (s_c S 6)])) := m1a5
                      refine lv_goto (tgt := 227) hx hb dX6_move_214 (by decide) ?_
                      refine lv_aload_n hx hb dX6_move_227 rfl (lv_at hl 5 rfl) ?_
                      refine r_get (ref := "SpanMoverModel") S9 wa5 xa5 rfl (by decide +kernel) 6 (by decide) (by decide +kernel) (Or.inl rfl) rfl dX6_move_228 ?_
                      exact ew_i S9 hr hlk wa5 (by have hM2 : mvR S h9 o o9 (nI i') (nI j') (nI n') = (0, v, va_up (s_o S) h9 (some (o_setf o9 (va_cpy (o_f o) (o_f o9) i' j' t)))) := (by unfold mvR; rw [if_neg (fun q => q s1), if_neg (fun q => q s2), if_pos hk9, y1, y2, y3, hv, ← hT]); rw [show sp_move S a (nI i') b (nI j') (nI n') = (0, (s_u S, va_up (s_o S) h9 (some (o_setf o9 (va_cpy (o_f o) (o_f o9) i' j' t))), s_s S, s_l S, upd (upd (upd (upd (upd (s_c S) 3 0) 4 v7) 3 v) 4 0) 5 v18)) from by simp only [sp_move, hMv, hM2, mvc, if_pos, ev18, upd_43]]; exact ⟨rfl, hRa5⟩) dX6_move_231 (by decide) (by decide)
                    · refine lv_iload hx hb dX6_move_121 (lv_at hl 1 rfl) ?_
                      refine lv_if_eq (tgt := 136) hx hb dX6_move_123 (by decide) (fun c_123 => ?_) (fun c_123 => absurd c_123 (by decide))
                      refine lv_iload hx hb dX6_move_136 (lv_at hl 0 rfl) ?_
                      have hk8 := nge_nI (n := t) hy hk7 (by omega) (by rw [← hv]; exact c_118)
                      have he1 : y = nI k := hy
                      refine lv_istore (lv' := [(11, .int y), (10, .int y), (9, .int 0), (8, .int v), (7, .int (nI h9)), (6, .int (nI h)), (0, .ref x), (1, .int a), (2, .int (nI i')), (3, .int b), (4, .int (nI j')), (5, .int (nI n'))]) hx hb dX6_move_138 hl (by decide) rfl (fun ls hl => ?_)
                      refine lv_aload_n hx hb dX6_move_140 rfl (lv_at hl 6 rfl) ?_
                      refine r_get (ref := "SpanMoverModel") S9 w7 q1 rfl (by decide +kernel) 0 (by decide) (by decide +kernel) (Or.inl rfl) rfl dX6_move_141 ?_
                      refine lv_iload hx hb dX6_move_144 (lv_at hl 4 rfl) ?_
                      refine lv_iconst (v := 1) hx hb dX6_move_146 (by decide) ?_
                      refine lv_iadd hx hb dX6_move_147 ?_
                      refine lv_topi (fun v19 ev19 => ?_)
                      refine lv_iload hx hb dX6_move_148 (lv_at hl 10 rfl) ?_
                      refine lv_iadd hx hb dX6_move_150 ?_
                      refine lv_topi (fun v20 ev20 => ?_)
                      refine lv_iload hx hb dX6_move_151 (lv_at hl 0 rfl) ?_
                      refine lv_iadd hx hb dX6_move_153 ?_
                      refine lv_topi (fun v21 ev21 => ?_)
                      refine lv_aload_n hx hb dX6_move_154 rfl (lv_at hl 6 rfl) ?_
                      refine r_get (ref := "SpanMoverModel") S9 w7 q1 rfl (by decide +kernel) 0 (by decide) (by decide +kernel) (Or.inl rfl) rfl dX6_move_155 ?_
                      refine lv_iload hx hb dX6_move_158 (lv_at hl 5 rfl) ?_
                      refine lv_iconst (v := 1) hx hb dX6_move_160 (by decide) ?_
                      refine lv_iadd hx hb dX6_move_161 ?_
                      refine lv_topi (fun v22 ev22 => ?_)
                      refine lv_iload_n hx hb dX6_move_162 rfl (lv_at hl 8 rfl) ?_
                      refine lv_iadd hx hb dX6_move_163 ?_
                      refine lv_topi (fun v23 ev23 => ?_)
                      refine lv_iload hx hb dX6_move_164 (lv_at hl 0 rfl) ?_
                      refine lv_iadd hx hb dX6_move_166 ?_
                      refine lv_topi (fun v24 ev24 => ?_)
                      refine r_lald S9 w7 q2 (by rw [show v24 = nI (h + 1 + i' + (k)) from by rw [ev24, ev23, ev22, he1]; exact idx3]; exact vp_in_nI (by omega) (by decide)) dX6_move_167 ?_
                      refine lv_topl (fun v25 ev25 => ?_)
                      have xB : v21 = nI (h9 + 1 + j' + (k)) := by rw [ev21, ev20, ev19, he1]; exact idx3
                      have xA : v24 = nI (h + 1 + i' + (k)) := by rw [ev24, ev23, ev22, he1]; exact idx3
                      refine r_last S9 w7 q2 (by rw [xB]; exact vp_in_nI (by omega) (by decide)) dX6_move_168 (fun ws8 H8 lc8 u8 w8 => ?_)
                      have nn8 := mne w7.2.1 q1 q2 q3 q4
                      have hval : v25 = hfa2 (h + 1 + i' + k) := by rw [ev25, cl_nI xA (by omega)]; exact cpy_fw (fun q hq => safe k q hk8 hq)
                      have hq2 : hp ws8 ha (aJ G 60000 (va_cpy hfa2 hfa2 (h + 1 + i') (h9 + 1 + j') (k + 1))) := by
                        have h8 := u8.1
                        rw [cl_nI xB (by omega), hval, cpy_fw1] at h8
                        exact h8
                      obtain ⟨v26, ev26⟩ : ∃ z : Int32, z = y + 1 := ⟨_, rfl⟩
                      refine lv_iinc (v := v26) (lv' := [(10, .int v26), (11, .int y), (9, .int 0), (8, .int v), (7, .int (nI h9)), (6, .int (nI h)), (0, .ref x), (1, .int a), (2, .int (nI i')), (3, .int b), (4, .int (nI j')), (5, .int (nI n'))]) hx hb dX6_move_169 hl (k := 1) rfl (by rw [ev26]; rfl) (by decide) rfl (fun ls hl => ?_)
                      refine lv_goto (tgt := 114) hx hb dX6_move_172 (by decide) ?_
                      exact ih (ls := ls) (k := k + 1) (y := v26) (ws7 := ws8) (H7 := H8) (lc7 := lc8) (hk7 := by omega) (hy := by rw [ev26, hy]; exact nI_1 k) (q1 := u8.keep nn8.1.1 q1) (q2 := hq2) (q3 := u8.keep nn8.2.1.symm q3) (q4 := u8.keep nn8.2.2.1.symm q4) (w7 := w8) (hl := lv_sub hl [0, 2, 3, 4, 5, 6, 7, 8, 9, 10, 11] rfl) (hg := by omega)
                · have hlt : h + 1 + i' < h9 + 1 + j' := by
                    have : ¬ j' ≤ i' := fun q => c_101 ((nI_leI (by omega) (by omega)).mpr q)
                    omega
                  refine lv_iconst (v := 1) hx hb dX6_move_104 (by decide) ?_
                  refine lv_goto (tgt := 109) hx hb dX6_move_105 (by decide) ?_
                  refine lv_istore (lv' := [(9, .int 1), (8, .int v), (7, .int (nI h9)), (6, .int (nI h)), (0, .ref x), (1, .int a), (2, .int (nI i')), (3, .int b), (4, .int (nI j')), (5, .int (nI n'))]) hx hb dX6_move_109 hl (by decide) rfl (fun ls hl => ?_)
                  refine lv_iconst (v := 0) hx hb dX6_move_111 (by decide) ?_
                  refine lv_istore (lv' := [(10, .int 0), (9, .int 1), (8, .int v), (7, .int (nI h9)), (6, .int (nI h)), (0, .ref x), (1, .int a), (2, .int (nI i')), (3, .int b), (4, .int (nI j')), (5, .int (nI n'))]) hx hb dX6_move_112 hl (by decide) rfl (fun ls hl => ?_)
                  obtain ⟨k, ws7, H7, lc7, hk7, hy, q1, q2, q3, q4, w7, eH, eL⟩ : ∃ (k : Nat) (ws7 : va_W) (H7 : Heap) (lc7 : List Loc), k ≤ t ∧ (0 : Int32) = nI k ∧ hp ws7 x (.inr (4, [.ref ha, .int (nI (s_u S)), .ref at_, .ref li, .int (s_c S 0), .int (s_c S 2), .int v7, .int (0 : Int32), .int (s_c S 5), .int (s_c S 6)])) ∧ hp ws7 ha (aJ G 60000 (va_cpy hfa2 hfa2 (h + 1 + i' + (t - (k))) (h9 + 1 + j' + (t - (k))) (k))) ∧ hp ws7 at_ (aI G 400 afa2) ∧ hp ws7 li (aI G 320 (s_l S)) ∧ Wd G (va_A ws s.heap.size) s ws7 H7 lc7 ∧ _ = H7 ∧ _ = lc7 := ⟨0, _, _, _, by omega, rfl, xa2, by simp only [va_cpy_0, Nat.sub_zero]; exact m2a2, m3a2, m4a2, wa2, rfl, rfl⟩
                  refine W_at eH eL ?_
                  clear eH eL
                  obtain ⟨y, hy0⟩ : ∃ y : Int32, y = 0 := ⟨_, rfl⟩
                  replace hl : lv_has ls 12 [(10, .int y), (9, .int 1), (8, .int v), (7, .int (nI h9)), (6, .int (nI h)), (0, .ref x), (1, .int a), (2, .int (nI i')), (3, .int b), (4, .int (nI j')), (5, .int (nI n'))] := by rw [hy0]; exact lv_sub hl [0, 1, 2, 3, 4, 5, 6, 7, 8, 9, 10] rfl
                  rw [← hy0] at hy
                  clear hy0
                  obtain ⟨g2, hg⟩ : ∃ g2, t - k < g2 := ⟨_, Nat.lt_succ_self _⟩
                  induction g2 generalizing k y ls ws7 H7 lc7 with
                  | zero => exact absurd hg (Nat.not_lt_zero _)
                  | succ g2 ih =>
                    refine lv_iload hx hb dX6_move_114 (lv_at hl 0 rfl) ?_
                    refine lv_iload hx hb dX6_move_116 (lv_at hl 2 rfl) ?_
                    refine lv_icmp_ge (tgt := 175) hx hb dX6_move_118 (by decide) (fun c_118 => ?_) (fun c_118 => ?_)
                    · have hkt : k = t := ge_nI (n := t) hy hk7 (by omega) (by rw [← hv]; exact c_118)
                      have q5 : hp ws7 ha (aJ G 60000 (va_cpy hfa2 hfa2 (h + 1 + i') (h9 + 1 + j') t)) := by
                        rw [hkt] at q2
                        simp only [Nat.sub_self, Nat.add_zero] at q2
                        exact q2
                      have hRq : RpM G x ha at_ li (s_u S, va_up (s_o S) h9 (some (o_setf o9 (va_cpy (o_f o) (o_f o9) i' j' t))), s_s S, s_l S, upd (upd (s_c S) 3 0) 4 v7) ws7 := ⟨_, _, q1, q5, q3, q4, m5a2, HpM.cpyN hI m6a2 ho ho9 hk hk9 (by omega) (by omega)⟩
                      refine lv_aload_n hx hb dX6_move_175 rfl (lv_at hl 5 rfl) ?_
                      refine lv_iload hx hb dX6_move_176 (lv_at hl 2 rfl) ?_
                      refine r_put (ref := "SpanMoverModel") S9 w7 q1 rfl (by decide +kernel) tyX6_ok nmX6 7 (by decide) (by decide +kernel) (Or.inl rfl) rfl rfl rfl (Nat.le_of_ble_eq_true rfl) dX6_move_178 (fun wsa3 Ha3 lca3 ua3 wa3 => ?_)
                      have hRa3 := RpM.sc (f := upd (upd (upd (s_c S) 3 0) 4 v7) 3 v) w7.2.1 hRq q1 ua3 rfl
                      replace hRa3 : RpM G x ha at_ li (s_u S, va_up (s_o S) h9 (some (o_setf o9 (va_cpy (o_f o) (o_f o9) i' j' t))), s_s S, s_l S, upd (upd (upd (s_c S) 3 0) 4 v7) 3 v) wsa3 := hRa3
                      obtain ⟨hfa3, afa3, m1a3, m2a3, m3a3, m4a3, m5a3, m6a3⟩ := id hRa3
                      have xa3 : hp wsa3 x (.inr (4, [.ref ha, .int (nI (s_u S)), .ref at_, .ref li, .int (s_c S 0), .int (s_c S 2), .int v7, .int v, .int (s_c S 5), .int (s_c S 6)])) := m1a3
                      refine lv_aload_n hx hb dX6_move_181 rfl (lv_at hl 5 rfl) ?_
                      refine lv_iload hx hb dX6_move_182 (lv_at hl 2 rfl) ?_
                      refine lv_iload hx hb dX6_move_184 (lv_at hl 10 rfl) ?_
                      refine lv_icmp_ge (tgt := 193) hx hb dX6_move_186 (by decide) (fun c_186 => ?_) (fun c_186 => absurd (by rw [hv, ← hT]; exact Int32.le_refl _) c_186)
                      refine lv_iconst (v := 0) hx hb dX6_move_193 (by decide) ?_
                      refine r_put (ref := "SpanMoverModel") S9 wa3 xa3 rfl (by decide +kernel) tyX6_ok nmX6 6 (by decide) (by decide +kernel) (Or.inl rfl) rfl rfl rfl (Nat.le_of_ble_eq_true rfl) dX6_move_194 (fun wsa4 Ha4 lca4 ua4 wa4 => ?_)
                      have hRa4 := RpM.sc (f := upd (upd (upd (upd (s_c S) 3 0) 4 v7) 3 v) 4 0) wa3.2.1 hRa3 xa3 ua4 rfl
                      replace hRa4 : RpM G x ha at_ li (s_u S, va_up (s_o S) h9 (some (o_setf o9 (va_cpy (o_f o) (o_f o9) i' j' t))), s_s S, s_l S, upd (upd (upd (upd (s_c S) 3 0) 4 v7) 3 v) 4 0) wsa4 := hRa4
                      obtain ⟨hfa4, afa4, m1a4, m2a4, m3a4, m4a4, m5a4, m6a4⟩ := id hRa4
                      have xa4 : hp wsa4 x (.inr (4, [.ref ha, .int (nI (s_u S)), .ref at_, .ref li, .int (s_c S 0), .int (s_c S 2), .int (0 : Int32), .int v, .int (s_c S 5), .int (s_c S 6)])) := m1a4
                      refine lv_aload_n hx hb dX6_move_197 rfl (lv_at hl 5 rfl) ?_
                      refine r_get (ref := "SpanMoverModel") S9 wa4 xa4 rfl (by decide +kernel) 6 (by decide) (by decide +kernel) (Or.inl rfl) rfl dX6_move_198 ?_
                      refine lv_if_ne (tgt := 217) hx hb dX6_move_201 (by decide) (fun c_201 => absurd c_201 (by decide)) (fun c_201 => ?_)
                      refine lv_aload_n hx hb dX6_move_204 rfl (lv_at hl 5 rfl) ?_
                      refine lv_dup hx hb dX6_move_205 rfl ?_
                      refine r_get (ref := "SpanMoverModel") S9 wa4 xa4 rfl (by decide +kernel) 8 (by decide) (by decide +kernel) (Or.inl rfl) rfl dX6_move_206 ?_
                      refine lv_iconst (v := 1) hx hb dX6_move_209 (by decide) ?_
                      refine lv_iadd hx hb dX6_move_210 ?_
                      refine lv_topi (fun v27 ev27 => ?_)
                      refine r_put (ref := "SpanMoverModel") S9 wa4 xa4 rfl (by decide +kernel) tyX6_ok nmX6 8 (by decide) (by decide +kernel) (Or.inl rfl) rfl rfl rfl (Nat.le_of_ble_eq_true rfl) dX6_move_211 (fun wsa5 Ha5 lca5 ua5 wa5 => ?_)
                      have hRa5 := RpM.sc (f := upd (upd (upd (upd (upd (s_c S) 3 0) 4 v7) 3 v) 4 0) 5 v27) wa4.2.1 hRa4 xa4 ua5 rfl
                      replace hRa5 : RpM G x ha at_ li (s_u S, va_up (s_o S) h9 (some (o_setf o9 (va_cpy (o_f o) (o_f o9) i' j' t))), s_s S, s_l S, upd (upd (upd (upd (upd (s_c S) 3 0) 4 v7) 3 v) 4 0) 5 v27) wsa5 := hRa5
                      obtain ⟨hfa5, afa5, m1a5, m2a5, m3a5, m4a5, m5a5, m6a5⟩ := id hRa5
                      have xa5 : hp wsa5 x (.inr (4, [.ref ha, .int (nI (s_u S)), .ref at_, .ref li, .int (s_c S 0), .int (s_c S 2), .int (0 : Int32), .int v, .int v27, .int (s_c S 6)])) := m1a5
                      refine lv_goto (tgt := 227) hx hb dX6_move_214 (by decide) ?_
                      refine lv_aload_n hx hb dX6_move_227 rfl (lv_at hl 5 rfl) ?_
                      refine r_get (ref := "SpanMoverModel") S9 wa5 xa5 rfl (by decide +kernel) 6 (by decide) (by decide +kernel) (Or.inl rfl) rfl dX6_move_228 ?_
                      exact ew_i S9 hr hlk wa5 (by have hM2 : mvR S h9 o o9 (nI i') (nI j') (nI n') = (0, v, va_up (s_o S) h9 (some (o_setf o9 (va_cpy (o_f o) (o_f o9) i' j' t)))) := (by unfold mvR; rw [if_neg (fun q => q s1), if_neg (fun q => q s2), if_pos hk9, y1, y2, y3, hv, ← hT]); rw [show sp_move S a (nI i') b (nI j') (nI n') = (0, (s_u S, va_up (s_o S) h9 (some (o_setf o9 (va_cpy (o_f o) (o_f o9) i' j' t))), s_s S, s_l S, upd (upd (upd (upd (upd (s_c S) 3 0) 4 v7) 3 v) 4 0) 5 v27)) from by simp only [sp_move, hMv, hM2, mvc, if_pos, ev27, upd_43]]; exact ⟨rfl, hRa5⟩) dX6_move_231 (by decide) (by decide)
                    · refine lv_iload hx hb dX6_move_121 (lv_at hl 1 rfl) ?_
                      refine lv_if_eq (tgt := 136) hx hb dX6_move_123 (by decide) (fun c_123 => absurd c_123 (by decide)) (fun c_123 => ?_)
                      refine lv_iload hx hb dX6_move_126 (lv_at hl 2 rfl) ?_
                      refine lv_iconst (v := 1) hx hb dX6_move_128 (by decide) ?_
                      refine lv_isub hx hb dX6_move_129 ?_
                      refine lv_topi (fun v28 ev28 => ?_)
                      refine lv_iload hx hb dX6_move_130 (lv_at hl 0 rfl) ?_
                      refine lv_isub hx hb dX6_move_132 ?_
                      refine lv_topi (fun v29 ev29 => ?_)
                      refine lv_goto (tgt := 138) hx hb dX6_move_133 (by decide) ?_
                      have hk8 := nge_nI (n := t) hy hk7 (by omega) (by rw [← hv]; exact c_118)
                      have he1 : v29 = nI (t - 1 - k) := by rw [ev29, ev28, hv, hy]; rw [show nI t - 1 = nI (t - 1) from pk_sub (b := 1) (by omega)]; exact pk_sub (by omega)
                      refine lv_istore (lv' := [(11, .int v29), (10, .int y), (9, .int 1), (8, .int v), (7, .int (nI h9)), (6, .int (nI h)), (0, .ref x), (1, .int a), (2, .int (nI i')), (3, .int b), (4, .int (nI j')), (5, .int (nI n'))]) hx hb dX6_move_138 hl (by decide) rfl (fun ls hl => ?_)
                      refine lv_aload_n hx hb dX6_move_140 rfl (lv_at hl 6 rfl) ?_
                      refine r_get (ref := "SpanMoverModel") S9 w7 q1 rfl (by decide +kernel) 0 (by decide) (by decide +kernel) (Or.inl rfl) rfl dX6_move_141 ?_
                      refine lv_iload hx hb dX6_move_144 (lv_at hl 4 rfl) ?_
                      refine lv_iconst (v := 1) hx hb dX6_move_146 (by decide) ?_
                      refine lv_iadd hx hb dX6_move_147 ?_
                      refine lv_topi (fun v30 ev30 => ?_)
                      refine lv_iload hx hb dX6_move_148 (lv_at hl 10 rfl) ?_
                      refine lv_iadd hx hb dX6_move_150 ?_
                      refine lv_topi (fun v31 ev31 => ?_)
                      refine lv_iload hx hb dX6_move_151 (lv_at hl 0 rfl) ?_
                      refine lv_iadd hx hb dX6_move_153 ?_
                      refine lv_topi (fun v32 ev32 => ?_)
                      refine lv_aload_n hx hb dX6_move_154 rfl (lv_at hl 6 rfl) ?_
                      refine r_get (ref := "SpanMoverModel") S9 w7 q1 rfl (by decide +kernel) 0 (by decide) (by decide +kernel) (Or.inl rfl) rfl dX6_move_155 ?_
                      refine lv_iload hx hb dX6_move_158 (lv_at hl 5 rfl) ?_
                      refine lv_iconst (v := 1) hx hb dX6_move_160 (by decide) ?_
                      refine lv_iadd hx hb dX6_move_161 ?_
                      refine lv_topi (fun v33 ev33 => ?_)
                      refine lv_iload_n hx hb dX6_move_162 rfl (lv_at hl 8 rfl) ?_
                      refine lv_iadd hx hb dX6_move_163 ?_
                      refine lv_topi (fun v34 ev34 => ?_)
                      refine lv_iload hx hb dX6_move_164 (lv_at hl 0 rfl) ?_
                      refine lv_iadd hx hb dX6_move_166 ?_
                      refine lv_topi (fun v35 ev35 => ?_)
                      refine r_lald S9 w7 q2 (by rw [show v35 = nI (h + 1 + i' + (t - 1 - k)) from by rw [ev35, ev34, ev33, he1]; exact idx3]; exact vp_in_nI (by omega) (by decide)) dX6_move_167 ?_
                      refine lv_topl (fun v36 ev36 => ?_)
                      have xB : v32 = nI (h9 + 1 + j' + (t - 1 - k)) := by rw [ev32, ev31, ev30, he1]; exact idx3
                      have xA : v35 = nI (h + 1 + i' + (t - 1 - k)) := by rw [ev35, ev34, ev33, he1]; exact idx3
                      refine r_last S9 w7 q2 (by rw [xB]; exact vp_in_nI (by omega) (by decide)) dX6_move_168 (fun ws8 H8 lc8 u8 w8 => ?_)
                      have nn8 := mne w7.2.1 q1 q2 q3 q4
                      have hval : v36 = hfa2 (h + 1 + i' + (t - 1 - k)) := by rw [ev36, cl_nI xA (by omega)]; exact cpy_bw (by omega)
                      have hq2 : hp ws8 ha (aJ G 60000 (va_cpy hfa2 hfa2 (h + 1 + i' + (t - (k + 1))) (h9 + 1 + j' + (t - (k + 1))) (k + 1))) := by
                        have h8 := u8.1
                        rw [cl_nI xB (by omega), hval, cpy_bw1 hk8] at h8
                        exact h8
                      obtain ⟨v37, ev37⟩ : ∃ z : Int32, z = y + 1 := ⟨_, rfl⟩
                      refine lv_iinc (v := v37) (lv' := [(10, .int v37), (11, .int v29), (9, .int 1), (8, .int v), (7, .int (nI h9)), (6, .int (nI h)), (0, .ref x), (1, .int a), (2, .int (nI i')), (3, .int b), (4, .int (nI j')), (5, .int (nI n'))]) hx hb dX6_move_169 hl (k := 1) rfl (by rw [ev37]; rfl) (by decide) rfl (fun ls hl => ?_)
                      refine lv_goto (tgt := 114) hx hb dX6_move_172 (by decide) ?_
                      exact ih (ls := ls) (k := k + 1) (y := v37) (ws7 := ws8) (H7 := H8) (lc7 := lc8) (hk7 := by omega) (hy := by rw [ev37, hy]; exact nI_1 k) (q1 := u8.keep nn8.1.1 q1) (q2 := hq2) (q3 := u8.keep nn8.2.1.symm q3) (q4 := u8.keep nn8.2.2.1.symm q4) (w7 := w8) (hl := lv_sub hl [0, 2, 3, 4, 5, 6, 7, 8, 9, 10, 11] rfl) (hg := by omega)
            · refine lv_aload_n hx hb dX6_move_53 rfl (lv_at hl 3 rfl) ?_
              refine lv_iload hx hb dX6_move_54 (lv_at hl 1 rfl) ?_
              refine k_vi S9 wa2 (c_misOfObjects l _ hRa2 (Inv.sc hI (upd (upd (s_c S) 3 0) 4 v7) rfl rfl) ho9) xa2 rfl (cwV 1 hts gX6_move_X6_isOfObjects rfl rfl rfl (by decide +kernel) ⟨Nat.le_of_ble_eq_true rfl, Nat.le_of_ble_eq_true rfl⟩) rfl hl.1 rfl (Nat.le_of_ble_eq_true rfl) dX6_move_56 ⟨Nat.le_of_ble_eq_true rfl, Nat.le_of_ble_eq_true rfl⟩ (fun r38 er38 => ?_)
              rw [if_neg (by omega)] at er38
              subst er38
              refine lv_if_eq (tgt := 85) hx hb dX6_move_59 (by decide) (fun c_59 => ?_) (fun c_59 => absurd c_59 (by decide))
              obtain ⟨v39, ev39⟩ : ∃ z : Int32, z = v + 1 := ⟨_, rfl⟩
              refine lv_iinc (v := v39) (lv' := [(8, .int v39), (7, .int (nI h9)), (6, .int (nI h)), (0, .ref x), (1, .int a), (2, .int (nI i')), (3, .int b), (4, .int (nI j')), (5, .int (nI n'))]) hx hb dX6_move_85 hl (k := 0) rfl (by rw [ev39]; rfl) (by decide) rfl (fun ls hl => ?_)
              refine lv_goto (tgt := 46) hx hb dX6_move_88 (by decide) ?_
              have ht4 := nge_nI hv ht (by omega) c_50
              exact ih (ls := ls) (t := t + 1) (v := v39) (ht := by omega) (hv := by rw [ev39, hv]; exact nI_1 t)  (hl := lv_sub hl [0, 1, 2, 3, 4, 5, 6, 7, 8] rfl) (hg := by omega)
        · refine lv_iconst (v := 0) hx hb dX6_move_43 (by decide) ?_
          refine lv_istore (lv' := [(8, .int 0), (7, .int (nI h9)), (6, .int (nI h)), (0, .ref x), (1, .int a), (2, .int (nI i')), (3, .int b), (4, .int (nI j')), (5, .int (nI n'))]) hx hb dX6_move_44 hl (by decide) rfl (fun ls hl => ?_)
          obtain ⟨t, ht, hv, hF⟩ : ∃ t : Nat, t ≤ n' ∧ (0 : Int32) = nI t ∧ fitN S (o_k o9) (o_e o) n' i' = t + fitN S (o_k o9) (o_e o) (n' - t) (i' + t) := ⟨0, by omega, rfl, by simp⟩
          obtain ⟨v, hv0⟩ : ∃ v : Int32, v = 0 := ⟨_, rfl⟩
          replace hl : lv_has ls 12 [(8, .int v), (7, .int (nI h9)), (6, .int (nI h)), (0, .ref x), (1, .int a), (2, .int (nI i')), (3, .int b), (4, .int (nI j')), (5, .int (nI n'))] := by rw [hv0]; exact lv_sub hl [0, 1, 2, 3, 4, 5, 6, 7, 8] rfl
          rw [← hv0] at hv
          clear hv0
          obtain ⟨g, hg⟩ : ∃ g, n' - t < g := ⟨_, Nat.lt_succ_self _⟩
          induction g generalizing t v ls with
          | zero => exact absurd hg (Nat.not_lt_zero _)
          | succ g ih =>
            refine lv_iload hx hb dX6_move_46 (lv_at hl 0 rfl) ?_
            refine lv_iload hx hb dX6_move_48 (lv_at hl 8 rfl) ?_
            refine lv_icmp_ge (tgt := 91) hx hb dX6_move_50 (by decide) (fun c_50 => ?_) (fun c_50 => ?_)
            · have hT : fitN S (o_k o9) (o_e o) n' i' = t := by
                have h4 := ge_nI hv ht (by omega) c_50
                subst h4
                rw [hF, Nat.sub_self]
                rfl
              clear ih
              refine lv_iload hx hb dX6_move_91 (lv_at hl 2 rfl) ?_
              refine lv_iload hx hb dX6_move_93 (lv_at hl 1 rfl) ?_
              refine lv_icmp_ne (tgt := 108) hx hb dX6_move_95 (by decide) (fun c_95 => ?_) (fun c_95 => ?_)
              · have hne : h ≠ h9 := fun q => c_95 (by rw [q])
                have safe : ∀ z q, z < t → q < z → h + 1 + i' + z ≠ h9 + 1 + j' + q := fun z q hz hq => by
                  have := (seg hI ho ho9 hne (j := i' + z) (by omega)).2 (j' + q) (by omega)
                  omega
                refine lv_iconst (v := 0) hx hb dX6_move_108 (by decide) ?_
                refine lv_istore (lv' := [(9, .int 0), (8, .int v), (7, .int (nI h9)), (6, .int (nI h)), (0, .ref x), (1, .int a), (2, .int (nI i')), (3, .int b), (4, .int (nI j')), (5, .int (nI n'))]) hx hb dX6_move_109 hl (by decide) rfl (fun ls hl => ?_)
                refine lv_iconst (v := 0) hx hb dX6_move_111 (by decide) ?_
                refine lv_istore (lv' := [(10, .int 0), (9, .int 0), (8, .int v), (7, .int (nI h9)), (6, .int (nI h)), (0, .ref x), (1, .int a), (2, .int (nI i')), (3, .int b), (4, .int (nI j')), (5, .int (nI n'))]) hx hb dX6_move_112 hl (by decide) rfl (fun ls hl => ?_)
                obtain ⟨k, ws7, H7, lc7, hk7, hy, q1, q2, q3, q4, w7, eH, eL⟩ : ∃ (k : Nat) (ws7 : va_W) (H7 : Heap) (lc7 : List Loc), k ≤ t ∧ (0 : Int32) = nI k ∧ hp ws7 x (.inr (4, [.ref ha, .int (nI (s_u S)), .ref at_, .ref li, .int (s_c S 0), .int (s_c S 2), .int v7, .int (0 : Int32), .int (s_c S 5), .int (s_c S 6)])) ∧ hp ws7 ha (aJ G 60000 (va_cpy hfa2 hfa2 (h + 1 + i') (h9 + 1 + j') (k))) ∧ hp ws7 at_ (aI G 400 afa2) ∧ hp ws7 li (aI G 320 (s_l S)) ∧ Wd G (va_A ws s.heap.size) s ws7 H7 lc7 ∧ _ = H7 ∧ _ = lc7 := ⟨0, _, _, _, by omega, rfl, xa2, by simp only [va_cpy_0, Nat.sub_zero]; exact m2a2, m3a2, m4a2, wa2, rfl, rfl⟩
                refine W_at eH eL ?_
                clear eH eL
                obtain ⟨y, hy0⟩ : ∃ y : Int32, y = 0 := ⟨_, rfl⟩
                replace hl : lv_has ls 12 [(10, .int y), (9, .int 0), (8, .int v), (7, .int (nI h9)), (6, .int (nI h)), (0, .ref x), (1, .int a), (2, .int (nI i')), (3, .int b), (4, .int (nI j')), (5, .int (nI n'))] := by rw [hy0]; exact lv_sub hl [0, 1, 2, 3, 4, 5, 6, 7, 8, 9, 10] rfl
                rw [← hy0] at hy
                clear hy0
                obtain ⟨g2, hg⟩ : ∃ g2, t - k < g2 := ⟨_, Nat.lt_succ_self _⟩
                induction g2 generalizing k y ls ws7 H7 lc7 with
                | zero => exact absurd hg (Nat.not_lt_zero _)
                | succ g2 ih =>
                  refine lv_iload hx hb dX6_move_114 (lv_at hl 0 rfl) ?_
                  refine lv_iload hx hb dX6_move_116 (lv_at hl 2 rfl) ?_
                  refine lv_icmp_ge (tgt := 175) hx hb dX6_move_118 (by decide) (fun c_118 => ?_) (fun c_118 => ?_)
                  · have hkt : k = t := ge_nI (n := t) hy hk7 (by omega) (by rw [← hv]; exact c_118)
                    have q5 : hp ws7 ha (aJ G 60000 (va_cpy hfa2 hfa2 (h + 1 + i') (h9 + 1 + j') t)) := by
                      rw [hkt] at q2
                      exact q2
                    have hRq : RpM G x ha at_ li (s_u S, va_up (s_o S) h9 (some (o_sete o9 (va_cpy (o_e o) (o_e o9) i' j' t))), s_s S, s_l S, upd (upd (s_c S) 3 0) 4 v7) ws7 := ⟨_, _, q1, q5, q3, q4, m5a2, HpM.cpyO hI m6a2 ho ho9 hk k6 hk9 k9 (by omega) (by omega)⟩
                    refine lv_aload_n hx hb dX6_move_175 rfl (lv_at hl 5 rfl) ?_
                    refine lv_iload hx hb dX6_move_176 (lv_at hl 2 rfl) ?_
                    refine r_put (ref := "SpanMoverModel") S9 w7 q1 rfl (by decide +kernel) tyX6_ok nmX6 7 (by decide) (by decide +kernel) (Or.inl rfl) rfl rfl rfl (Nat.le_of_ble_eq_true rfl) dX6_move_178 (fun wsa3 Ha3 lca3 ua3 wa3 => ?_)
                    have hRa3 := RpM.sc (f := upd (upd (upd (s_c S) 3 0) 4 v7) 3 v) w7.2.1 hRq q1 ua3 rfl
                    replace hRa3 : RpM G x ha at_ li (s_u S, va_up (s_o S) h9 (some (o_sete o9 (va_cpy (o_e o) (o_e o9) i' j' t))), s_s S, s_l S, upd (upd (upd (s_c S) 3 0) 4 v7) 3 v) wsa3 := hRa3
                    obtain ⟨hfa3, afa3, m1a3, m2a3, m3a3, m4a3, m5a3, m6a3⟩ := id hRa3
                    have xa3 : hp wsa3 x (.inr (4, [.ref ha, .int (nI (s_u S)), .ref at_, .ref li, .int (s_c S 0), .int (s_c S 2), .int v7, .int v, .int (s_c S 5), .int (s_c S 6)])) := m1a3
                    refine lv_aload_n hx hb dX6_move_181 rfl (lv_at hl 5 rfl) ?_
                    refine lv_iload hx hb dX6_move_182 (lv_at hl 2 rfl) ?_
                    refine lv_iload hx hb dX6_move_184 (lv_at hl 10 rfl) ?_
                    refine lv_icmp_ge (tgt := 193) hx hb dX6_move_186 (by decide) (fun c_186 => ?_) (fun c_186 => ?_)
                    · have hfull : t = n' := ge_nI hv ht (by omega) c_186
                      refine lv_iconst (v := 0) hx hb dX6_move_193 (by decide) ?_
                      refine r_put (ref := "SpanMoverModel") S9 wa3 xa3 rfl (by decide +kernel) tyX6_ok nmX6 6 (by decide) (by decide +kernel) (Or.inl rfl) rfl rfl rfl (Nat.le_of_ble_eq_true rfl) dX6_move_194 (fun wsa4 Ha4 lca4 ua4 wa4 => ?_)
                      have hRa4 := RpM.sc (f := upd (upd (upd (upd (s_c S) 3 0) 4 v7) 3 v) 4 0) wa3.2.1 hRa3 xa3 ua4 rfl
                      replace hRa4 : RpM G x ha at_ li (s_u S, va_up (s_o S) h9 (some (o_sete o9 (va_cpy (o_e o) (o_e o9) i' j' t))), s_s S, s_l S, upd (upd (upd (upd (s_c S) 3 0) 4 v7) 3 v) 4 0) wsa4 := hRa4
                      obtain ⟨hfa4, afa4, m1a4, m2a4, m3a4, m4a4, m5a4, m6a4⟩ := id hRa4
                      have xa4 : hp wsa4 x (.inr (4, [.ref ha, .int (nI (s_u S)), .ref at_, .ref li, .int (s_c S 0), .int (s_c S 2), .int (0 : Int32), .int v, .int (s_c S 5), .int (s_c S 6)])) := m1a4
                      refine lv_aload_n hx hb dX6_move_197 rfl (lv_at hl 5 rfl) ?_
                      refine r_get (ref := "SpanMoverModel") S9 wa4 xa4 rfl (by decide +kernel) 6 (by decide) (by decide +kernel) (Or.inl rfl) rfl dX6_move_198 ?_
                      refine lv_if_ne (tgt := 217) hx hb dX6_move_201 (by decide) (fun c_201 => absurd c_201 (by decide)) (fun c_201 => ?_)
                      refine lv_aload_n hx hb dX6_move_204 rfl (lv_at hl 5 rfl) ?_
                      refine lv_dup hx hb dX6_move_205 rfl ?_
                      refine r_get (ref := "SpanMoverModel") S9 wa4 xa4 rfl (by decide +kernel) 8 (by decide) (by decide +kernel) (Or.inl rfl) rfl dX6_move_206 ?_
                      refine lv_iconst (v := 1) hx hb dX6_move_209 (by decide) ?_
                      refine lv_iadd hx hb dX6_move_210 ?_
                      refine lv_topi (fun v40 ev40 => ?_)
                      refine r_put (ref := "SpanMoverModel") S9 wa4 xa4 rfl (by decide +kernel) tyX6_ok nmX6 8 (by decide) (by decide +kernel) (Or.inl rfl) rfl rfl rfl (Nat.le_of_ble_eq_true rfl) dX6_move_211 (fun wsa5 Ha5 lca5 ua5 wa5 => ?_)
                      have hRa5 := RpM.sc (f := upd (upd (upd (upd (upd (s_c S) 3 0) 4 v7) 3 v) 4 0) 5 v40) wa4.2.1 hRa4 xa4 ua5 rfl
                      replace hRa5 : RpM G x ha at_ li (s_u S, va_up (s_o S) h9 (some (o_sete o9 (va_cpy (o_e o) (o_e o9) i' j' t))), s_s S, s_l S, upd (upd (upd (upd (upd (s_c S) 3 0) 4 v7) 3 v) 4 0) 5 v40) wsa5 := hRa5
                      obtain ⟨hfa5, afa5, m1a5, m2a5, m3a5, m4a5, m5a5, m6a5⟩ := id hRa5
                      have xa5 : hp wsa5 x (.inr (4, [.ref ha, .int (nI (s_u S)), .ref at_, .ref li, .int (s_c S 0), .int (s_c S 2), .int (0 : Int32), .int v, .int v40, .int (s_c S 6)])) := m1a5
                      refine lv_goto (tgt := 227) hx hb dX6_move_214 (by decide) ?_
                      refine lv_aload_n hx hb dX6_move_227 rfl (lv_at hl 5 rfl) ?_
                      refine r_get (ref := "SpanMoverModel") S9 wa5 xa5 rfl (by decide +kernel) 6 (by decide) (by decide +kernel) (Or.inl rfl) rfl dX6_move_228 ?_
                      exact ew_i S9 hr hlk wa5 (by have hM2 : mvR S h9 o o9 (nI i') (nI j') (nI n') = (0, v, va_up (s_o S) h9 (some (o_sete o9 (va_cpy (o_e o) (o_e o9) i' j' t)))) := (by unfold mvR; rw [if_neg (fun q => q s1), if_neg (fun q => q s2), if_neg (by omega), y1, y2, y3, hT, if_pos hfull, hv]); rw [show sp_move S a (nI i') b (nI j') (nI n') = (0, (s_u S, va_up (s_o S) h9 (some (o_sete o9 (va_cpy (o_e o) (o_e o9) i' j' t))), s_s S, s_l S, upd (upd (upd (upd (upd (s_c S) 3 0) 4 v7) 3 v) 4 0) 5 v40)) from by simp only [sp_move, hMv, hM2, mvc, if_pos, ev40, upd_43]]; exact ⟨rfl, hRa5⟩) dX6_move_231 (by decide) (by decide)
                    · have hfull : ¬ t = n' := fun q => c_186 (by rw [hv, q]; exact Int32.le_refl _)
                      refine lv_iconst (v := 5) hx hb dX6_move_189 (by decide) ?_
                      refine lv_goto (tgt := 194) hx hb dX6_move_190 (by decide) ?_
                      refine r_put (ref := "SpanMoverModel") S9 wa3 xa3 rfl (by decide +kernel) tyX6_ok nmX6 6 (by decide) (by decide +kernel) (Or.inl rfl) rfl rfl rfl (Nat.le_of_ble_eq_true rfl) dX6_move_194 (fun wsa4 Ha4 lca4 ua4 wa4 => ?_)
                      have hRa4 := RpM.sc (f := upd (upd (upd (upd (s_c S) 3 0) 4 v7) 3 v) 4 5) wa3.2.1 hRa3 xa3 ua4 rfl
                      replace hRa4 : RpM G x ha at_ li (s_u S, va_up (s_o S) h9 (some (o_sete o9 (va_cpy (o_e o) (o_e o9) i' j' t))), s_s S, s_l S, upd (upd (upd (upd (s_c S) 3 0) 4 v7) 3 v) 4 5) wsa4 := hRa4
                      obtain ⟨hfa4, afa4, m1a4, m2a4, m3a4, m4a4, m5a4, m6a4⟩ := id hRa4
                      have xa4 : hp wsa4 x (.inr (4, [.ref ha, .int (nI (s_u S)), .ref at_, .ref li, .int (s_c S 0), .int (s_c S 2), .int (5 : Int32), .int v, .int (s_c S 5), .int (s_c S 6)])) := m1a4
                      refine lv_aload_n hx hb dX6_move_197 rfl (lv_at hl 5 rfl) ?_
                      refine r_get (ref := "SpanMoverModel") S9 wa4 xa4 rfl (by decide +kernel) 6 (by decide) (by decide +kernel) (Or.inl rfl) rfl dX6_move_198 ?_
                      refine lv_if_ne (tgt := 217) hx hb dX6_move_201 (by decide) (fun c_201 => ?_) (fun c_201 => absurd c_201 (by decide))
                      refine lv_aload_n hx hb dX6_move_217 rfl (lv_at hl 5 rfl) ?_
                      refine lv_dup hx hb dX6_move_218 rfl ?_
                      refine r_get (ref := "SpanMoverModel") S9 wa4 xa4 rfl (by decide +kernel) 9 (by decide) (by decide +kernel) (Or.inl rfl) rfl dX6_move_219 ?_
                      refine lv_iconst (v := 1) hx hb dX6_move_222 (by decide) ?_
                      refine lv_iadd hx hb dX6_move_223 ?_
                      refine lv_topi (fun v41 ev41 => ?_)
                      refine r_put (ref := "SpanMoverModel") S9 wa4 xa4 rfl (by decide +kernel) tyX6_ok nmX6 9 (by decide) (by decide +kernel) (Or.inl rfl) rfl rfl rfl (Nat.le_of_ble_eq_true rfl) dX6_move_224 (fun wsa5 Ha5 lca5 ua5 wa5 => ?_)
                      have hRa5 := RpM.sc (f := upd (upd (upd (upd (upd (s_c S) 3 0) 4 v7) 3 v) 4 5) 6 v41) wa4.2.1 hRa4 xa4 ua5 rfl
                      replace hRa5 : RpM G x ha at_ li (s_u S, va_up (s_o S) h9 (some (o_sete o9 (va_cpy (o_e o) (o_e o9) i' j' t))), s_s S, s_l S, upd (upd (upd (upd (upd (s_c S) 3 0) 4 v7) 3 v) 4 5) 6 v41) wsa5 := hRa5
                      obtain ⟨hfa5, afa5, m1a5, m2a5, m3a5, m4a5, m5a5, m6a5⟩ := id hRa5
                      have xa5 : hp wsa5 x (.inr (4, [.ref ha, .int (nI (s_u S)), .ref at_, .ref li, .int (s_c S 0), .int (s_c S 2), .int (5 : Int32), .int v, .int (s_c S 5), .int v41])) := m1a5
                      refine lv_aload_n hx hb dX6_move_227 rfl (lv_at hl 5 rfl) ?_
                      refine r_get (ref := "SpanMoverModel") S9 wa5 xa5 rfl (by decide +kernel) 6 (by decide) (by decide +kernel) (Or.inl rfl) rfl dX6_move_228 ?_
                      exact ew_i S9 hr hlk wa5 (by have hM2 : mvR S h9 o o9 (nI i') (nI j') (nI n') = (5, v, va_up (s_o S) h9 (some (o_sete o9 (va_cpy (o_e o) (o_e o9) i' j' t)))) := (by unfold mvR; rw [if_neg (fun q => q s1), if_neg (fun q => q s2), if_neg (by omega), y1, y2, y3, hT, if_neg hfull, hv]); rw [show sp_move S a (nI i') b (nI j') (nI n') = (5, (s_u S, va_up (s_o S) h9 (some (o_sete o9 (va_cpy (o_e o) (o_e o9) i' j' t))), s_s S, s_l S, upd (upd (upd (upd (upd (s_c S) 3 0) 4 v7) 3 v) 4 5) 6 v41)) from by simp only [sp_move, hMv, hM2, mvc, if_neg (show ¬ (5 : Int32) = 0 by decide), ev41, upd_43]]; exact ⟨rfl, hRa5⟩) dX6_move_231 (by decide) (by decide)
                  · refine lv_iload hx hb dX6_move_121 (lv_at hl 1 rfl) ?_
                    refine lv_if_eq (tgt := 136) hx hb dX6_move_123 (by decide) (fun c_123 => ?_) (fun c_123 => absurd c_123 (by decide))
                    refine lv_iload hx hb dX6_move_136 (lv_at hl 0 rfl) ?_
                    have hk8 := nge_nI (n := t) hy hk7 (by omega) (by rw [← hv]; exact c_118)
                    have he1 : y = nI k := hy
                    refine lv_istore (lv' := [(11, .int y), (10, .int y), (9, .int 0), (8, .int v), (7, .int (nI h9)), (6, .int (nI h)), (0, .ref x), (1, .int a), (2, .int (nI i')), (3, .int b), (4, .int (nI j')), (5, .int (nI n'))]) hx hb dX6_move_138 hl (by decide) rfl (fun ls hl => ?_)
                    refine lv_aload_n hx hb dX6_move_140 rfl (lv_at hl 6 rfl) ?_
                    refine r_get (ref := "SpanMoverModel") S9 w7 q1 rfl (by decide +kernel) 0 (by decide) (by decide +kernel) (Or.inl rfl) rfl dX6_move_141 ?_
                    refine lv_iload hx hb dX6_move_144 (lv_at hl 4 rfl) ?_
                    refine lv_iconst (v := 1) hx hb dX6_move_146 (by decide) ?_
                    refine lv_iadd hx hb dX6_move_147 ?_
                    refine lv_topi (fun v42 ev42 => ?_)
                    refine lv_iload hx hb dX6_move_148 (lv_at hl 10 rfl) ?_
                    refine lv_iadd hx hb dX6_move_150 ?_
                    refine lv_topi (fun v43 ev43 => ?_)
                    refine lv_iload hx hb dX6_move_151 (lv_at hl 0 rfl) ?_
                    refine lv_iadd hx hb dX6_move_153 ?_
                    refine lv_topi (fun v44 ev44 => ?_)
                    refine lv_aload_n hx hb dX6_move_154 rfl (lv_at hl 6 rfl) ?_
                    refine r_get (ref := "SpanMoverModel") S9 w7 q1 rfl (by decide +kernel) 0 (by decide) (by decide +kernel) (Or.inl rfl) rfl dX6_move_155 ?_
                    refine lv_iload hx hb dX6_move_158 (lv_at hl 5 rfl) ?_
                    refine lv_iconst (v := 1) hx hb dX6_move_160 (by decide) ?_
                    refine lv_iadd hx hb dX6_move_161 ?_
                    refine lv_topi (fun v45 ev45 => ?_)
                    refine lv_iload_n hx hb dX6_move_162 rfl (lv_at hl 8 rfl) ?_
                    refine lv_iadd hx hb dX6_move_163 ?_
                    refine lv_topi (fun v46 ev46 => ?_)
                    refine lv_iload hx hb dX6_move_164 (lv_at hl 0 rfl) ?_
                    refine lv_iadd hx hb dX6_move_166 ?_
                    refine lv_topi (fun v47 ev47 => ?_)
                    refine r_lald S9 w7 q2 (by rw [show v47 = nI (h + 1 + i' + (k)) from by rw [ev47, ev46, ev45, he1]; exact idx3]; exact vp_in_nI (by omega) (by decide)) dX6_move_167 ?_
                    refine lv_topl (fun v48 ev48 => ?_)
                    have xB : v44 = nI (h9 + 1 + j' + (k)) := by rw [ev44, ev43, ev42, he1]; exact idx3
                    have xA : v47 = nI (h + 1 + i' + (k)) := by rw [ev47, ev46, ev45, he1]; exact idx3
                    refine r_last S9 w7 q2 (by rw [xB]; exact vp_in_nI (by omega) (by decide)) dX6_move_168 (fun ws8 H8 lc8 u8 w8 => ?_)
                    have nn8 := mne w7.2.1 q1 q2 q3 q4
                    have hval : v48 = hfa2 (h + 1 + i' + k) := by rw [ev48, cl_nI xA (by omega)]; exact cpy_fw (fun q hq => safe k q hk8 hq)
                    have hq2 : hp ws8 ha (aJ G 60000 (va_cpy hfa2 hfa2 (h + 1 + i') (h9 + 1 + j') (k + 1))) := by
                      have h8 := u8.1
                      rw [cl_nI xB (by omega), hval, cpy_fw1] at h8
                      exact h8
                    obtain ⟨v49, ev49⟩ : ∃ z : Int32, z = y + 1 := ⟨_, rfl⟩
                    refine lv_iinc (v := v49) (lv' := [(10, .int v49), (11, .int y), (9, .int 0), (8, .int v), (7, .int (nI h9)), (6, .int (nI h)), (0, .ref x), (1, .int a), (2, .int (nI i')), (3, .int b), (4, .int (nI j')), (5, .int (nI n'))]) hx hb dX6_move_169 hl (k := 1) rfl (by rw [ev49]; rfl) (by decide) rfl (fun ls hl => ?_)
                    refine lv_goto (tgt := 114) hx hb dX6_move_172 (by decide) ?_
                    exact ih (ls := ls) (k := k + 1) (y := v49) (ws7 := ws8) (H7 := H8) (lc7 := lc8) (hk7 := by omega) (hy := by rw [ev49, hy]; exact nI_1 k) (q1 := u8.keep nn8.1.1 q1) (q2 := hq2) (q3 := u8.keep nn8.2.1.symm q3) (q4 := u8.keep nn8.2.2.1.symm q4) (w7 := w8) (hl := lv_sub hl [0, 2, 3, 4, 5, 6, 7, 8, 9, 10, 11] rfl) (hg := by omega)
              · have heq : h = h9 := (nI_eq (by omega) (by omega)).mp c_95
                refine lv_iload_n hx hb dX6_move_98 rfl (lv_at hl 5 rfl) ?_
                refine lv_iload hx hb dX6_move_99 (lv_at hl 7 rfl) ?_
                refine lv_icmp_ge (tgt := 108) hx hb dX6_move_101 (by decide) (fun c_101 => ?_) (fun c_101 => ?_)
                · have hle := (nI_leI (by omega) (by omega)).mp c_101
                  have safe : ∀ z q, z < t → q < z → h + 1 + i' + z ≠ h9 + 1 + j' + q := fun z q hz hq => by omega
                  refine lv_iconst (v := 0) hx hb dX6_move_108 (by decide) ?_
                  refine lv_istore (lv' := [(9, .int 0), (8, .int v), (7, .int (nI h9)), (6, .int (nI h)), (0, .ref x), (1, .int a), (2, .int (nI i')), (3, .int b), (4, .int (nI j')), (5, .int (nI n'))]) hx hb dX6_move_109 hl (by decide) rfl (fun ls hl => ?_)
                  refine lv_iconst (v := 0) hx hb dX6_move_111 (by decide) ?_
                  refine lv_istore (lv' := [(10, .int 0), (9, .int 0), (8, .int v), (7, .int (nI h9)), (6, .int (nI h)), (0, .ref x), (1, .int a), (2, .int (nI i')), (3, .int b), (4, .int (nI j')), (5, .int (nI n'))]) hx hb dX6_move_112 hl (by decide) rfl (fun ls hl => ?_)
                  obtain ⟨k, ws7, H7, lc7, hk7, hy, q1, q2, q3, q4, w7, eH, eL⟩ : ∃ (k : Nat) (ws7 : va_W) (H7 : Heap) (lc7 : List Loc), k ≤ t ∧ (0 : Int32) = nI k ∧ hp ws7 x (.inr (4, [.ref ha, .int (nI (s_u S)), .ref at_, .ref li, .int (s_c S 0), .int (s_c S 2), .int v7, .int (0 : Int32), .int (s_c S 5), .int (s_c S 6)])) ∧ hp ws7 ha (aJ G 60000 (va_cpy hfa2 hfa2 (h + 1 + i') (h9 + 1 + j') (k))) ∧ hp ws7 at_ (aI G 400 afa2) ∧ hp ws7 li (aI G 320 (s_l S)) ∧ Wd G (va_A ws s.heap.size) s ws7 H7 lc7 ∧ _ = H7 ∧ _ = lc7 := ⟨0, _, _, _, by omega, rfl, xa2, by simp only [va_cpy_0, Nat.sub_zero]; exact m2a2, m3a2, m4a2, wa2, rfl, rfl⟩
                  refine W_at eH eL ?_
                  clear eH eL
                  obtain ⟨y, hy0⟩ : ∃ y : Int32, y = 0 := ⟨_, rfl⟩
                  replace hl : lv_has ls 12 [(10, .int y), (9, .int 0), (8, .int v), (7, .int (nI h9)), (6, .int (nI h)), (0, .ref x), (1, .int a), (2, .int (nI i')), (3, .int b), (4, .int (nI j')), (5, .int (nI n'))] := by rw [hy0]; exact lv_sub hl [0, 1, 2, 3, 4, 5, 6, 7, 8, 9, 10] rfl
                  rw [← hy0] at hy
                  clear hy0
                  obtain ⟨g2, hg⟩ : ∃ g2, t - k < g2 := ⟨_, Nat.lt_succ_self _⟩
                  induction g2 generalizing k y ls ws7 H7 lc7 with
                  | zero => exact absurd hg (Nat.not_lt_zero _)
                  | succ g2 ih =>
                    refine lv_iload hx hb dX6_move_114 (lv_at hl 0 rfl) ?_
                    refine lv_iload hx hb dX6_move_116 (lv_at hl 2 rfl) ?_
                    refine lv_icmp_ge (tgt := 175) hx hb dX6_move_118 (by decide) (fun c_118 => ?_) (fun c_118 => ?_)
                    · have hkt : k = t := ge_nI (n := t) hy hk7 (by omega) (by rw [← hv]; exact c_118)
                      have q5 : hp ws7 ha (aJ G 60000 (va_cpy hfa2 hfa2 (h + 1 + i') (h9 + 1 + j') t)) := by
                        rw [hkt] at q2
                        exact q2
                      have hRq : RpM G x ha at_ li (s_u S, va_up (s_o S) h9 (some (o_sete o9 (va_cpy (o_e o) (o_e o9) i' j' t))), s_s S, s_l S, upd (upd (s_c S) 3 0) 4 v7) ws7 := ⟨_, _, q1, q5, q3, q4, m5a2, HpM.cpyO hI m6a2 ho ho9 hk k6 hk9 k9 (by omega) (by omega)⟩
                      refine lv_aload_n hx hb dX6_move_175 rfl (lv_at hl 5 rfl) ?_
                      refine lv_iload hx hb dX6_move_176 (lv_at hl 2 rfl) ?_
                      refine r_put (ref := "SpanMoverModel") S9 w7 q1 rfl (by decide +kernel) tyX6_ok nmX6 7 (by decide) (by decide +kernel) (Or.inl rfl) rfl rfl rfl (Nat.le_of_ble_eq_true rfl) dX6_move_178 (fun wsa3 Ha3 lca3 ua3 wa3 => ?_)
                      have hRa3 := RpM.sc (f := upd (upd (upd (s_c S) 3 0) 4 v7) 3 v) w7.2.1 hRq q1 ua3 rfl
                      replace hRa3 : RpM G x ha at_ li (s_u S, va_up (s_o S) h9 (some (o_sete o9 (va_cpy (o_e o) (o_e o9) i' j' t))), s_s S, s_l S, upd (upd (upd (s_c S) 3 0) 4 v7) 3 v) wsa3 := hRa3
                      obtain ⟨hfa3, afa3, m1a3, m2a3, m3a3, m4a3, m5a3, m6a3⟩ := id hRa3
                      have xa3 : hp wsa3 x (.inr (4, [.ref ha, .int (nI (s_u S)), .ref at_, .ref li, .int (s_c S 0), .int (s_c S 2), .int v7, .int v, .int (s_c S 5), .int (s_c S 6)])) := m1a3
                      refine lv_aload_n hx hb dX6_move_181 rfl (lv_at hl 5 rfl) ?_
                      refine lv_iload hx hb dX6_move_182 (lv_at hl 2 rfl) ?_
                      refine lv_iload hx hb dX6_move_184 (lv_at hl 10 rfl) ?_
                      refine lv_icmp_ge (tgt := 193) hx hb dX6_move_186 (by decide) (fun c_186 => ?_) (fun c_186 => ?_)
                      · have hfull : t = n' := ge_nI hv ht (by omega) c_186
                        refine lv_iconst (v := 0) hx hb dX6_move_193 (by decide) ?_
                        refine r_put (ref := "SpanMoverModel") S9 wa3 xa3 rfl (by decide +kernel) tyX6_ok nmX6 6 (by decide) (by decide +kernel) (Or.inl rfl) rfl rfl rfl (Nat.le_of_ble_eq_true rfl) dX6_move_194 (fun wsa4 Ha4 lca4 ua4 wa4 => ?_)
                        have hRa4 := RpM.sc (f := upd (upd (upd (upd (s_c S) 3 0) 4 v7) 3 v) 4 0) wa3.2.1 hRa3 xa3 ua4 rfl
                        replace hRa4 : RpM G x ha at_ li (s_u S, va_up (s_o S) h9 (some (o_sete o9 (va_cpy (o_e o) (o_e o9) i' j' t))), s_s S, s_l S, upd (upd (upd (upd (s_c S) 3 0) 4 v7) 3 v) 4 0) wsa4 := hRa4
                        obtain ⟨hfa4, afa4, m1a4, m2a4, m3a4, m4a4, m5a4, m6a4⟩ := id hRa4
                        have xa4 : hp wsa4 x (.inr (4, [.ref ha, .int (nI (s_u S)), .ref at_, .ref li, .int (s_c S 0), .int (s_c S 2), .int (0 : Int32), .int v, .int (s_c S 5), .int (s_c S 6)])) := m1a4
                        refine lv_aload_n hx hb dX6_move_197 rfl (lv_at hl 5 rfl) ?_
                        refine r_get (ref := "SpanMoverModel") S9 wa4 xa4 rfl (by decide +kernel) 6 (by decide) (by decide +kernel) (Or.inl rfl) rfl dX6_move_198 ?_
                        refine lv_if_ne (tgt := 217) hx hb dX6_move_201 (by decide) (fun c_201 => absurd c_201 (by decide)) (fun c_201 => ?_)
                        refine lv_aload_n hx hb dX6_move_204 rfl (lv_at hl 5 rfl) ?_
                        refine lv_dup hx hb dX6_move_205 rfl ?_
                        refine r_get (ref := "SpanMoverModel") S9 wa4 xa4 rfl (by decide +kernel) 8 (by decide) (by decide +kernel) (Or.inl rfl) rfl dX6_move_206 ?_
                        refine lv_iconst (v := 1) hx hb dX6_move_209 (by decide) ?_
                        refine lv_iadd hx hb dX6_move_210 ?_
                        refine lv_topi (fun v50 ev50 => ?_)
                        refine r_put (ref := "SpanMoverModel") S9 wa4 xa4 rfl (by decide +kernel) tyX6_ok nmX6 8 (by decide) (by decide +kernel) (Or.inl rfl) rfl rfl rfl (Nat.le_of_ble_eq_true rfl) dX6_move_211 (fun wsa5 Ha5 lca5 ua5 wa5 => ?_)
                        have hRa5 := RpM.sc (f := upd (upd (upd (upd (upd (s_c S) 3 0) 4 v7) 3 v) 4 0) 5 v50) wa4.2.1 hRa4 xa4 ua5 rfl
                        replace hRa5 : RpM G x ha at_ li (s_u S, va_up (s_o S) h9 (some (o_sete o9 (va_cpy (o_e o) (o_e o9) i' j' t))), s_s S, s_l S, upd (upd (upd (upd (upd (s_c S) 3 0) 4 v7) 3 v) 4 0) 5 v50) wsa5 := hRa5
                        obtain ⟨hfa5, afa5, m1a5, m2a5, m3a5, m4a5, m5a5, m6a5⟩ := id hRa5
                        have xa5 : hp wsa5 x (.inr (4, [.ref ha, .int (nI (s_u S)), .ref at_, .ref li, .int (s_c S 0), .int (s_c S 2), .int (0 : Int32), .int v, .int v50, .int (s_c S 6)])) := m1a5
                        refine lv_goto (tgt := 227) hx hb dX6_move_214 (by decide) ?_
                        refine lv_aload_n hx hb dX6_move_227 rfl (lv_at hl 5 rfl) ?_
                        refine r_get (ref := "SpanMoverModel") S9 wa5 xa5 rfl (by decide +kernel) 6 (by decide) (by decide +kernel) (Or.inl rfl) rfl dX6_move_228 ?_
                        exact ew_i S9 hr hlk wa5 (by have hM2 : mvR S h9 o o9 (nI i') (nI j') (nI n') = (0, v, va_up (s_o S) h9 (some (o_sete o9 (va_cpy (o_e o) (o_e o9) i' j' t)))) := (by unfold mvR; rw [if_neg (fun q => q s1), if_neg (fun q => q s2), if_neg (by omega), y1, y2, y3, hT, if_pos hfull, hv]); rw [show sp_move S a (nI i') b (nI j') (nI n') = (0, (s_u S, va_up (s_o S) h9 (some (o_sete o9 (va_cpy (o_e o) (o_e o9) i' j' t))), s_s S, s_l S, upd (upd (upd (upd (upd (s_c S) 3 0) 4 v7) 3 v) 4 0) 5 v50)) from by simp only [sp_move, hMv, hM2, mvc, if_pos, ev50, upd_43]]; exact ⟨rfl, hRa5⟩) dX6_move_231 (by decide) (by decide)
                      · have hfull : ¬ t = n' := fun q => c_186 (by rw [hv, q]; exact Int32.le_refl _)
                        refine lv_iconst (v := 5) hx hb dX6_move_189 (by decide) ?_
                        refine lv_goto (tgt := 194) hx hb dX6_move_190 (by decide) ?_
                        refine r_put (ref := "SpanMoverModel") S9 wa3 xa3 rfl (by decide +kernel) tyX6_ok nmX6 6 (by decide) (by decide +kernel) (Or.inl rfl) rfl rfl rfl (Nat.le_of_ble_eq_true rfl) dX6_move_194 (fun wsa4 Ha4 lca4 ua4 wa4 => ?_)
                        have hRa4 := RpM.sc (f := upd (upd (upd (upd (s_c S) 3 0) 4 v7) 3 v) 4 5) wa3.2.1 hRa3 xa3 ua4 rfl
                        replace hRa4 : RpM G x ha at_ li (s_u S, va_up (s_o S) h9 (some (o_sete o9 (va_cpy (o_e o) (o_e o9) i' j' t))), s_s S, s_l S, upd (upd (upd (upd (s_c S) 3 0) 4 v7) 3 v) 4 5) wsa4 := hRa4
                        obtain ⟨hfa4, afa4, m1a4, m2a4, m3a4, m4a4, m5a4, m6a4⟩ := id hRa4
                        have xa4 : hp wsa4 x (.inr (4, [.ref ha, .int (nI (s_u S)), .ref at_, .ref li, .int (s_c S 0), .int (s_c S 2), .int (5 : Int32), .int v, .int (s_c S 5), .int (s_c S 6)])) := m1a4
                        refine lv_aload_n hx hb dX6_move_197 rfl (lv_at hl 5 rfl) ?_
                        refine r_get (ref := "SpanMoverModel") S9 wa4 xa4 rfl (by decide +kernel) 6 (by decide) (by decide +kernel) (Or.inl rfl) rfl dX6_move_198 ?_
                        refine lv_if_ne (tgt := 217) hx hb dX6_move_201 (by decide) (fun c_201 => ?_) (fun c_201 => absurd c_201 (by decide))
                        refine lv_aload_n hx hb dX6_move_217 rfl (lv_at hl 5 rfl) ?_
                        refine lv_dup hx hb dX6_move_218 rfl ?_
                        refine r_get (ref := "SpanMoverModel") S9 wa4 xa4 rfl (by decide +kernel) 9 (by decide) (by decide +kernel) (Or.inl rfl) rfl dX6_move_219 ?_
                        refine lv_iconst (v := 1) hx hb dX6_move_222 (by decide) ?_
                        refine lv_iadd hx hb dX6_move_223 ?_
                        refine lv_topi (fun v51 ev51 => ?_)
                        refine r_put (ref := "SpanMoverModel") S9 wa4 xa4 rfl (by decide +kernel) tyX6_ok nmX6 9 (by decide) (by decide +kernel) (Or.inl rfl) rfl rfl rfl (Nat.le_of_ble_eq_true rfl) dX6_move_224 (fun wsa5 Ha5 lca5 ua5 wa5 => ?_)
                        have hRa5 := RpM.sc (f := upd (upd (upd (upd (upd (s_c S) 3 0) 4 v7) 3 v) 4 5) 6 v51) wa4.2.1 hRa4 xa4 ua5 rfl
                        replace hRa5 : RpM G x ha at_ li (s_u S, va_up (s_o S) h9 (some (o_sete o9 (va_cpy (o_e o) (o_e o9) i' j' t))), s_s S, s_l S, upd (upd (upd (upd (upd (s_c S) 3 0) 4 v7) 3 v) 4 5) 6 v51) wsa5 := hRa5
                        obtain ⟨hfa5, afa5, m1a5, m2a5, m3a5, m4a5, m5a5, m6a5⟩ := id hRa5
                        have xa5 : hp wsa5 x (.inr (4, [.ref ha, .int (nI (s_u S)), .ref at_, .ref li, .int (s_c S 0), .int (s_c S 2), .int (5 : Int32), .int v, .int (s_c S 5), .int v51])) := m1a5
                        refine lv_aload_n hx hb dX6_move_227 rfl (lv_at hl 5 rfl) ?_
                        refine r_get (ref := "SpanMoverModel") S9 wa5 xa5 rfl (by decide +kernel) 6 (by decide) (by decide +kernel) (Or.inl rfl) rfl dX6_move_228 ?_
                        exact ew_i S9 hr hlk wa5 (by have hM2 : mvR S h9 o o9 (nI i') (nI j') (nI n') = (5, v, va_up (s_o S) h9 (some (o_sete o9 (va_cpy (o_e o) (o_e o9) i' j' t)))) := (by unfold mvR; rw [if_neg (fun q => q s1), if_neg (fun q => q s2), if_neg (by omega), y1, y2, y3, hT, if_neg hfull, hv]); rw [show sp_move S a (nI i') b (nI j') (nI n') = (5, (s_u S, va_up (s_o S) h9 (some (o_sete o9 (va_cpy (o_e o) (o_e o9) i' j' t))), s_s S, s_l S, upd (upd (upd (upd (upd (s_c S) 3 0) 4 v7) 3 v) 4 5) 6 v51)) from by simp only [sp_move, hMv, hM2, mvc, if_neg (show ¬ (5 : Int32) = 0 by decide), ev51, upd_43]]; exact ⟨rfl, hRa5⟩) dX6_move_231 (by decide) (by decide)
                    · refine lv_iload hx hb dX6_move_121 (lv_at hl 1 rfl) ?_
                      refine lv_if_eq (tgt := 136) hx hb dX6_move_123 (by decide) (fun c_123 => ?_) (fun c_123 => absurd c_123 (by decide))
                      refine lv_iload hx hb dX6_move_136 (lv_at hl 0 rfl) ?_
                      have hk8 := nge_nI (n := t) hy hk7 (by omega) (by rw [← hv]; exact c_118)
                      have he1 : y = nI k := hy
                      refine lv_istore (lv' := [(11, .int y), (10, .int y), (9, .int 0), (8, .int v), (7, .int (nI h9)), (6, .int (nI h)), (0, .ref x), (1, .int a), (2, .int (nI i')), (3, .int b), (4, .int (nI j')), (5, .int (nI n'))]) hx hb dX6_move_138 hl (by decide) rfl (fun ls hl => ?_)
                      refine lv_aload_n hx hb dX6_move_140 rfl (lv_at hl 6 rfl) ?_
                      refine r_get (ref := "SpanMoverModel") S9 w7 q1 rfl (by decide +kernel) 0 (by decide) (by decide +kernel) (Or.inl rfl) rfl dX6_move_141 ?_
                      refine lv_iload hx hb dX6_move_144 (lv_at hl 4 rfl) ?_
                      refine lv_iconst (v := 1) hx hb dX6_move_146 (by decide) ?_
                      refine lv_iadd hx hb dX6_move_147 ?_
                      refine lv_topi (fun v52 ev52 => ?_)
                      refine lv_iload hx hb dX6_move_148 (lv_at hl 10 rfl) ?_
                      refine lv_iadd hx hb dX6_move_150 ?_
                      refine lv_topi (fun v53 ev53 => ?_)
                      refine lv_iload hx hb dX6_move_151 (lv_at hl 0 rfl) ?_
                      refine lv_iadd hx hb dX6_move_153 ?_
                      refine lv_topi (fun v54 ev54 => ?_)
                      refine lv_aload_n hx hb dX6_move_154 rfl (lv_at hl 6 rfl) ?_
                      refine r_get (ref := "SpanMoverModel") S9 w7 q1 rfl (by decide +kernel) 0 (by decide) (by decide +kernel) (Or.inl rfl) rfl dX6_move_155 ?_
                      refine lv_iload hx hb dX6_move_158 (lv_at hl 5 rfl) ?_
                      refine lv_iconst (v := 1) hx hb dX6_move_160 (by decide) ?_
                      refine lv_iadd hx hb dX6_move_161 ?_
                      refine lv_topi (fun v55 ev55 => ?_)
                      refine lv_iload_n hx hb dX6_move_162 rfl (lv_at hl 8 rfl) ?_
                      refine lv_iadd hx hb dX6_move_163 ?_
                      refine lv_topi (fun v56 ev56 => ?_)
                      refine lv_iload hx hb dX6_move_164 (lv_at hl 0 rfl) ?_
                      refine lv_iadd hx hb dX6_move_166 ?_
                      refine lv_topi (fun v57 ev57 => ?_)
                      refine r_lald S9 w7 q2 (by rw [show v57 = nI (h + 1 + i' + (k)) from by rw [ev57, ev56, ev55, he1]; exact idx3]; exact vp_in_nI (by omega) (by decide)) dX6_move_167 ?_
                      refine lv_topl (fun v58 ev58 => ?_)
                      have xB : v54 = nI (h9 + 1 + j' + (k)) := by rw [ev54, ev53, ev52, he1]; exact idx3
                      have xA : v57 = nI (h + 1 + i' + (k)) := by rw [ev57, ev56, ev55, he1]; exact idx3
                      refine r_last S9 w7 q2 (by rw [xB]; exact vp_in_nI (by omega) (by decide)) dX6_move_168 (fun ws8 H8 lc8 u8 w8 => ?_)
                      have nn8 := mne w7.2.1 q1 q2 q3 q4
                      have hval : v58 = hfa2 (h + 1 + i' + k) := by rw [ev58, cl_nI xA (by omega)]; exact cpy_fw (fun q hq => safe k q hk8 hq)
                      have hq2 : hp ws8 ha (aJ G 60000 (va_cpy hfa2 hfa2 (h + 1 + i') (h9 + 1 + j') (k + 1))) := by
                        have h8 := u8.1
                        rw [cl_nI xB (by omega), hval, cpy_fw1] at h8
                        exact h8
                      obtain ⟨v59, ev59⟩ : ∃ z : Int32, z = y + 1 := ⟨_, rfl⟩
                      refine lv_iinc (v := v59) (lv' := [(10, .int v59), (11, .int y), (9, .int 0), (8, .int v), (7, .int (nI h9)), (6, .int (nI h)), (0, .ref x), (1, .int a), (2, .int (nI i')), (3, .int b), (4, .int (nI j')), (5, .int (nI n'))]) hx hb dX6_move_169 hl (k := 1) rfl (by rw [ev59]; rfl) (by decide) rfl (fun ls hl => ?_)
                      refine lv_goto (tgt := 114) hx hb dX6_move_172 (by decide) ?_
                      exact ih (ls := ls) (k := k + 1) (y := v59) (ws7 := ws8) (H7 := H8) (lc7 := lc8) (hk7 := by omega) (hy := by rw [ev59, hy]; exact nI_1 k) (q1 := u8.keep nn8.1.1 q1) (q2 := hq2) (q3 := u8.keep nn8.2.1.symm q3) (q4 := u8.keep nn8.2.2.1.symm q4) (w7 := w8) (hl := lv_sub hl [0, 2, 3, 4, 5, 6, 7, 8, 9, 10, 11] rfl) (hg := by omega)
                · have hlt : h + 1 + i' < h9 + 1 + j' := by
                    have : ¬ j' ≤ i' := fun q => c_101 ((nI_leI (by omega) (by omega)).mpr q)
                    omega
                  refine lv_iconst (v := 1) hx hb dX6_move_104 (by decide) ?_
                  refine lv_goto (tgt := 109) hx hb dX6_move_105 (by decide) ?_
                  refine lv_istore (lv' := [(9, .int 1), (8, .int v), (7, .int (nI h9)), (6, .int (nI h)), (0, .ref x), (1, .int a), (2, .int (nI i')), (3, .int b), (4, .int (nI j')), (5, .int (nI n'))]) hx hb dX6_move_109 hl (by decide) rfl (fun ls hl => ?_)
                  refine lv_iconst (v := 0) hx hb dX6_move_111 (by decide) ?_
                  refine lv_istore (lv' := [(10, .int 0), (9, .int 1), (8, .int v), (7, .int (nI h9)), (6, .int (nI h)), (0, .ref x), (1, .int a), (2, .int (nI i')), (3, .int b), (4, .int (nI j')), (5, .int (nI n'))]) hx hb dX6_move_112 hl (by decide) rfl (fun ls hl => ?_)
                  obtain ⟨k, ws7, H7, lc7, hk7, hy, q1, q2, q3, q4, w7, eH, eL⟩ : ∃ (k : Nat) (ws7 : va_W) (H7 : Heap) (lc7 : List Loc), k ≤ t ∧ (0 : Int32) = nI k ∧ hp ws7 x (.inr (4, [.ref ha, .int (nI (s_u S)), .ref at_, .ref li, .int (s_c S 0), .int (s_c S 2), .int v7, .int (0 : Int32), .int (s_c S 5), .int (s_c S 6)])) ∧ hp ws7 ha (aJ G 60000 (va_cpy hfa2 hfa2 (h + 1 + i' + (t - (k))) (h9 + 1 + j' + (t - (k))) (k))) ∧ hp ws7 at_ (aI G 400 afa2) ∧ hp ws7 li (aI G 320 (s_l S)) ∧ Wd G (va_A ws s.heap.size) s ws7 H7 lc7 ∧ _ = H7 ∧ _ = lc7 := ⟨0, _, _, _, by omega, rfl, xa2, by simp only [va_cpy_0, Nat.sub_zero]; exact m2a2, m3a2, m4a2, wa2, rfl, rfl⟩
                  refine W_at eH eL ?_
                  clear eH eL
                  obtain ⟨y, hy0⟩ : ∃ y : Int32, y = 0 := ⟨_, rfl⟩
                  replace hl : lv_has ls 12 [(10, .int y), (9, .int 1), (8, .int v), (7, .int (nI h9)), (6, .int (nI h)), (0, .ref x), (1, .int a), (2, .int (nI i')), (3, .int b), (4, .int (nI j')), (5, .int (nI n'))] := by rw [hy0]; exact lv_sub hl [0, 1, 2, 3, 4, 5, 6, 7, 8, 9, 10] rfl
                  rw [← hy0] at hy
                  clear hy0
                  obtain ⟨g2, hg⟩ : ∃ g2, t - k < g2 := ⟨_, Nat.lt_succ_self _⟩
                  induction g2 generalizing k y ls ws7 H7 lc7 with
                  | zero => exact absurd hg (Nat.not_lt_zero _)
                  | succ g2 ih =>
                    refine lv_iload hx hb dX6_move_114 (lv_at hl 0 rfl) ?_
                    refine lv_iload hx hb dX6_move_116 (lv_at hl 2 rfl) ?_
                    refine lv_icmp_ge (tgt := 175) hx hb dX6_move_118 (by decide) (fun c_118 => ?_) (fun c_118 => ?_)
                    · have hkt : k = t := ge_nI (n := t) hy hk7 (by omega) (by rw [← hv]; exact c_118)
                      have q5 : hp ws7 ha (aJ G 60000 (va_cpy hfa2 hfa2 (h + 1 + i') (h9 + 1 + j') t)) := by
                        rw [hkt] at q2
                        simp only [Nat.sub_self, Nat.add_zero] at q2
                        exact q2
                      have hRq : RpM G x ha at_ li (s_u S, va_up (s_o S) h9 (some (o_sete o9 (va_cpy (o_e o) (o_e o9) i' j' t))), s_s S, s_l S, upd (upd (s_c S) 3 0) 4 v7) ws7 := ⟨_, _, q1, q5, q3, q4, m5a2, HpM.cpyO hI m6a2 ho ho9 hk k6 hk9 k9 (by omega) (by omega)⟩
                      refine lv_aload_n hx hb dX6_move_175 rfl (lv_at hl 5 rfl) ?_
                      refine lv_iload hx hb dX6_move_176 (lv_at hl 2 rfl) ?_
                      refine r_put (ref := "SpanMoverModel") S9 w7 q1 rfl (by decide +kernel) tyX6_ok nmX6 7 (by decide) (by decide +kernel) (Or.inl rfl) rfl rfl rfl (Nat.le_of_ble_eq_true rfl) dX6_move_178 (fun wsa3 Ha3 lca3 ua3 wa3 => ?_)
                      have hRa3 := RpM.sc (f := upd (upd (upd (s_c S) 3 0) 4 v7) 3 v) w7.2.1 hRq q1 ua3 rfl
                      replace hRa3 : RpM G x ha at_ li (s_u S, va_up (s_o S) h9 (some (o_sete o9 (va_cpy (o_e o) (o_e o9) i' j' t))), s_s S, s_l S, upd (upd (upd (s_c S) 3 0) 4 v7) 3 v) wsa3 := hRa3
                      obtain ⟨hfa3, afa3, m1a3, m2a3, m3a3, m4a3, m5a3, m6a3⟩ := id hRa3
                      have xa3 : hp wsa3 x (.inr (4, [.ref ha, .int (nI (s_u S)), .ref at_, .ref li, .int (s_c S 0), .int (s_c S 2), .int v7, .int v, .int (s_c S 5), .int (s_c S 6)])) := m1a3
                      refine lv_aload_n hx hb dX6_move_181 rfl (lv_at hl 5 rfl) ?_
                      refine lv_iload hx hb dX6_move_182 (lv_at hl 2 rfl) ?_
                      refine lv_iload hx hb dX6_move_184 (lv_at hl 10 rfl) ?_
                      refine lv_icmp_ge (tgt := 193) hx hb dX6_move_186 (by decide) (fun c_186 => ?_) (fun c_186 => ?_)
                      · have hfull : t = n' := ge_nI hv ht (by omega) c_186
                        refine lv_iconst (v := 0) hx hb dX6_move_193 (by decide) ?_
                        refine r_put (ref := "SpanMoverModel") S9 wa3 xa3 rfl (by decide +kernel) tyX6_ok nmX6 6 (by decide) (by decide +kernel) (Or.inl rfl) rfl rfl rfl (Nat.le_of_ble_eq_true rfl) dX6_move_194 (fun wsa4 Ha4 lca4 ua4 wa4 => ?_)
                        have hRa4 := RpM.sc (f := upd (upd (upd (upd (s_c S) 3 0) 4 v7) 3 v) 4 0) wa3.2.1 hRa3 xa3 ua4 rfl
                        replace hRa4 : RpM G x ha at_ li (s_u S, va_up (s_o S) h9 (some (o_sete o9 (va_cpy (o_e o) (o_e o9) i' j' t))), s_s S, s_l S, upd (upd (upd (upd (s_c S) 3 0) 4 v7) 3 v) 4 0) wsa4 := hRa4
                        obtain ⟨hfa4, afa4, m1a4, m2a4, m3a4, m4a4, m5a4, m6a4⟩ := id hRa4
                        have xa4 : hp wsa4 x (.inr (4, [.ref ha, .int (nI (s_u S)), .ref at_, .ref li, .int (s_c S 0), .int (s_c S 2), .int (0 : Int32), .int v, .int (s_c S 5), .int (s_c S 6)])) := m1a4
                        refine lv_aload_n hx hb dX6_move_197 rfl (lv_at hl 5 rfl) ?_
                        refine r_get (ref := "SpanMoverModel") S9 wa4 xa4 rfl (by decide +kernel) 6 (by decide) (by decide +kernel) (Or.inl rfl) rfl dX6_move_198 ?_
                        refine lv_if_ne (tgt := 217) hx hb dX6_move_201 (by decide) (fun c_201 => absurd c_201 (by decide)) (fun c_201 => ?_)
                        refine lv_aload_n hx hb dX6_move_204 rfl (lv_at hl 5 rfl) ?_
                        refine lv_dup hx hb dX6_move_205 rfl ?_
                        refine r_get (ref := "SpanMoverModel") S9 wa4 xa4 rfl (by decide +kernel) 8 (by decide) (by decide +kernel) (Or.inl rfl) rfl dX6_move_206 ?_
                        refine lv_iconst (v := 1) hx hb dX6_move_209 (by decide) ?_
                        refine lv_iadd hx hb dX6_move_210 ?_
                        refine lv_topi (fun v60 ev60 => ?_)
                        refine r_put (ref := "SpanMoverModel") S9 wa4 xa4 rfl (by decide +kernel) tyX6_ok nmX6 8 (by decide) (by decide +kernel) (Or.inl rfl) rfl rfl rfl (Nat.le_of_ble_eq_true rfl) dX6_move_211 (fun wsa5 Ha5 lca5 ua5 wa5 => ?_)
                        have hRa5 := RpM.sc (f := upd (upd (upd (upd (upd (s_c S) 3 0) 4 v7) 3 v) 4 0) 5 v60) wa4.2.1 hRa4 xa4 ua5 rfl
                        replace hRa5 : RpM G x ha at_ li (s_u S, va_up (s_o S) h9 (some (o_sete o9 (va_cpy (o_e o) (o_e o9) i' j' t))), s_s S, s_l S, upd (upd (upd (upd (upd (s_c S) 3 0) 4 v7) 3 v) 4 0) 5 v60) wsa5 := hRa5
                        obtain ⟨hfa5, afa5, m1a5, m2a5, m3a5, m4a5, m5a5, m6a5⟩ := id hRa5
                        have xa5 : hp wsa5 x (.inr (4, [.ref ha, .int (nI (s_u S)), .ref at_, .ref li, .int (s_c S 0), .int (s_c S 2), .int (0 : Int32), .int v, .int v60, .int (s_c S 6)])) := m1a5
                        refine lv_goto (tgt := 227) hx hb dX6_move_214 (by decide) ?_
                        refine lv_aload_n hx hb dX6_move_227 rfl (lv_at hl 5 rfl) ?_
                        refine r_get (ref := "SpanMoverModel") S9 wa5 xa5 rfl (by decide +kernel) 6 (by decide) (by decide +kernel) (Or.inl rfl) rfl dX6_move_228 ?_
                        exact ew_i S9 hr hlk wa5 (by have hM2 : mvR S h9 o o9 (nI i') (nI j') (nI n') = (0, v, va_up (s_o S) h9 (some (o_sete o9 (va_cpy (o_e o) (o_e o9) i' j' t)))) := (by unfold mvR; rw [if_neg (fun q => q s1), if_neg (fun q => q s2), if_neg (by omega), y1, y2, y3, hT, if_pos hfull, hv]); rw [show sp_move S a (nI i') b (nI j') (nI n') = (0, (s_u S, va_up (s_o S) h9 (some (o_sete o9 (va_cpy (o_e o) (o_e o9) i' j' t))), s_s S, s_l S, upd (upd (upd (upd (upd (s_c S) 3 0) 4 v7) 3 v) 4 0) 5 v60)) from by simp only [sp_move, hMv, hM2, mvc, if_pos, ev60, upd_43]]; exact ⟨rfl, hRa5⟩) dX6_move_231 (by decide) (by decide)
                      · have hfull : ¬ t = n' := fun q => c_186 (by rw [hv, q]; exact Int32.le_refl _)
                        refine lv_iconst (v := 5) hx hb dX6_move_189 (by decide) ?_
                        refine lv_goto (tgt := 194) hx hb dX6_move_190 (by decide) ?_
                        refine r_put (ref := "SpanMoverModel") S9 wa3 xa3 rfl (by decide +kernel) tyX6_ok nmX6 6 (by decide) (by decide +kernel) (Or.inl rfl) rfl rfl rfl (Nat.le_of_ble_eq_true rfl) dX6_move_194 (fun wsa4 Ha4 lca4 ua4 wa4 => ?_)
                        have hRa4 := RpM.sc (f := upd (upd (upd (upd (s_c S) 3 0) 4 v7) 3 v) 4 5) wa3.2.1 hRa3 xa3 ua4 rfl
                        replace hRa4 : RpM G x ha at_ li (s_u S, va_up (s_o S) h9 (some (o_sete o9 (va_cpy (o_e o) (o_e o9) i' j' t))), s_s S, s_l S, upd (upd (upd (upd (s_c S) 3 0) 4 v7) 3 v) 4 5) wsa4 := hRa4
                        obtain ⟨hfa4, afa4, m1a4, m2a4, m3a4, m4a4, m5a4, m6a4⟩ := id hRa4
                        have xa4 : hp wsa4 x (.inr (4, [.ref ha, .int (nI (s_u S)), .ref at_, .ref li, .int (s_c S 0), .int (s_c S 2), .int (5 : Int32), .int v, .int (s_c S 5), .int (s_c S 6)])) := m1a4
                        refine lv_aload_n hx hb dX6_move_197 rfl (lv_at hl 5 rfl) ?_
                        refine r_get (ref := "SpanMoverModel") S9 wa4 xa4 rfl (by decide +kernel) 6 (by decide) (by decide +kernel) (Or.inl rfl) rfl dX6_move_198 ?_
                        refine lv_if_ne (tgt := 217) hx hb dX6_move_201 (by decide) (fun c_201 => ?_) (fun c_201 => absurd c_201 (by decide))
                        refine lv_aload_n hx hb dX6_move_217 rfl (lv_at hl 5 rfl) ?_
                        refine lv_dup hx hb dX6_move_218 rfl ?_
                        refine r_get (ref := "SpanMoverModel") S9 wa4 xa4 rfl (by decide +kernel) 9 (by decide) (by decide +kernel) (Or.inl rfl) rfl dX6_move_219 ?_
                        refine lv_iconst (v := 1) hx hb dX6_move_222 (by decide) ?_
                        refine lv_iadd hx hb dX6_move_223 ?_
                        refine lv_topi (fun v61 ev61 => ?_)
                        refine r_put (ref := "SpanMoverModel") S9 wa4 xa4 rfl (by decide +kernel) tyX6_ok nmX6 9 (by decide) (by decide +kernel) (Or.inl rfl) rfl rfl rfl (Nat.le_of_ble_eq_true rfl) dX6_move_224 (fun wsa5 Ha5 lca5 ua5 wa5 => ?_)
                        have hRa5 := RpM.sc (f := upd (upd (upd (upd (upd (s_c S) 3 0) 4 v7) 3 v) 4 5) 6 v61) wa4.2.1 hRa4 xa4 ua5 rfl
                        replace hRa5 : RpM G x ha at_ li (s_u S, va_up (s_o S) h9 (some (o_sete o9 (va_cpy (o_e o) (o_e o9) i' j' t))), s_s S, s_l S, upd (upd (upd (upd (upd (s_c S) 3 0) 4 v7) 3 v) 4 5) 6 v61) wsa5 := hRa5
                        obtain ⟨hfa5, afa5, m1a5, m2a5, m3a5, m4a5, m5a5, m6a5⟩ := id hRa5
                        have xa5 : hp wsa5 x (.inr (4, [.ref ha, .int (nI (s_u S)), .ref at_, .ref li, .int (s_c S 0), .int (s_c S 2), .int (5 : Int32), .int v, .int (s_c S 5), .int v61])) := m1a5
                        refine lv_aload_n hx hb dX6_move_227 rfl (lv_at hl 5 rfl) ?_
                        refine r_get (ref := "SpanMoverModel") S9 wa5 xa5 rfl (by decide +kernel) 6 (by decide) (by decide +kernel) (Or.inl rfl) rfl dX6_move_228 ?_
                        exact ew_i S9 hr hlk wa5 (by have hM2 : mvR S h9 o o9 (nI i') (nI j') (nI n') = (5, v, va_up (s_o S) h9 (some (o_sete o9 (va_cpy (o_e o) (o_e o9) i' j' t)))) := (by unfold mvR; rw [if_neg (fun q => q s1), if_neg (fun q => q s2), if_neg (by omega), y1, y2, y3, hT, if_neg hfull, hv]); rw [show sp_move S a (nI i') b (nI j') (nI n') = (5, (s_u S, va_up (s_o S) h9 (some (o_sete o9 (va_cpy (o_e o) (o_e o9) i' j' t))), s_s S, s_l S, upd (upd (upd (upd (upd (s_c S) 3 0) 4 v7) 3 v) 4 5) 6 v61)) from by simp only [sp_move, hMv, hM2, mvc, if_neg (show ¬ (5 : Int32) = 0 by decide), ev61, upd_43]]; exact ⟨rfl, hRa5⟩) dX6_move_231 (by decide) (by decide)
                    · refine lv_iload hx hb dX6_move_121 (lv_at hl 1 rfl) ?_
                      refine lv_if_eq (tgt := 136) hx hb dX6_move_123 (by decide) (fun c_123 => absurd c_123 (by decide)) (fun c_123 => ?_)
                      refine lv_iload hx hb dX6_move_126 (lv_at hl 2 rfl) ?_
                      refine lv_iconst (v := 1) hx hb dX6_move_128 (by decide) ?_
                      refine lv_isub hx hb dX6_move_129 ?_
                      refine lv_topi (fun v62 ev62 => ?_)
                      refine lv_iload hx hb dX6_move_130 (lv_at hl 0 rfl) ?_
                      refine lv_isub hx hb dX6_move_132 ?_
                      refine lv_topi (fun v63 ev63 => ?_)
                      refine lv_goto (tgt := 138) hx hb dX6_move_133 (by decide) ?_
                      have hk8 := nge_nI (n := t) hy hk7 (by omega) (by rw [← hv]; exact c_118)
                      have he1 : v63 = nI (t - 1 - k) := by rw [ev63, ev62, hv, hy]; rw [show nI t - 1 = nI (t - 1) from pk_sub (b := 1) (by omega)]; exact pk_sub (by omega)
                      refine lv_istore (lv' := [(11, .int v63), (10, .int y), (9, .int 1), (8, .int v), (7, .int (nI h9)), (6, .int (nI h)), (0, .ref x), (1, .int a), (2, .int (nI i')), (3, .int b), (4, .int (nI j')), (5, .int (nI n'))]) hx hb dX6_move_138 hl (by decide) rfl (fun ls hl => ?_)
                      refine lv_aload_n hx hb dX6_move_140 rfl (lv_at hl 6 rfl) ?_
                      refine r_get (ref := "SpanMoverModel") S9 w7 q1 rfl (by decide +kernel) 0 (by decide) (by decide +kernel) (Or.inl rfl) rfl dX6_move_141 ?_
                      refine lv_iload hx hb dX6_move_144 (lv_at hl 4 rfl) ?_
                      refine lv_iconst (v := 1) hx hb dX6_move_146 (by decide) ?_
                      refine lv_iadd hx hb dX6_move_147 ?_
                      refine lv_topi (fun v64 ev64 => ?_)
                      refine lv_iload hx hb dX6_move_148 (lv_at hl 10 rfl) ?_
                      refine lv_iadd hx hb dX6_move_150 ?_
                      refine lv_topi (fun v65 ev65 => ?_)
                      refine lv_iload hx hb dX6_move_151 (lv_at hl 0 rfl) ?_
                      refine lv_iadd hx hb dX6_move_153 ?_
                      refine lv_topi (fun v66 ev66 => ?_)
                      refine lv_aload_n hx hb dX6_move_154 rfl (lv_at hl 6 rfl) ?_
                      refine r_get (ref := "SpanMoverModel") S9 w7 q1 rfl (by decide +kernel) 0 (by decide) (by decide +kernel) (Or.inl rfl) rfl dX6_move_155 ?_
                      refine lv_iload hx hb dX6_move_158 (lv_at hl 5 rfl) ?_
                      refine lv_iconst (v := 1) hx hb dX6_move_160 (by decide) ?_
                      refine lv_iadd hx hb dX6_move_161 ?_
                      refine lv_topi (fun v67 ev67 => ?_)
                      refine lv_iload_n hx hb dX6_move_162 rfl (lv_at hl 8 rfl) ?_
                      refine lv_iadd hx hb dX6_move_163 ?_
                      refine lv_topi (fun v68 ev68 => ?_)
                      refine lv_iload hx hb dX6_move_164 (lv_at hl 0 rfl) ?_
                      refine lv_iadd hx hb dX6_move_166 ?_
                      refine lv_topi (fun v69 ev69 => ?_)
                      refine r_lald S9 w7 q2 (by rw [show v69 = nI (h + 1 + i' + (t - 1 - k)) from by rw [ev69, ev68, ev67, he1]; exact idx3]; exact vp_in_nI (by omega) (by decide)) dX6_move_167 ?_
                      refine lv_topl (fun v70 ev70 => ?_)
                      have xB : v66 = nI (h9 + 1 + j' + (t - 1 - k)) := by rw [ev66, ev65, ev64, he1]; exact idx3
                      have xA : v69 = nI (h + 1 + i' + (t - 1 - k)) := by rw [ev69, ev68, ev67, he1]; exact idx3
                      refine r_last S9 w7 q2 (by rw [xB]; exact vp_in_nI (by omega) (by decide)) dX6_move_168 (fun ws8 H8 lc8 u8 w8 => ?_)
                      have nn8 := mne w7.2.1 q1 q2 q3 q4
                      have hval : v70 = hfa2 (h + 1 + i' + (t - 1 - k)) := by rw [ev70, cl_nI xA (by omega)]; exact cpy_bw (by omega)
                      have hq2 : hp ws8 ha (aJ G 60000 (va_cpy hfa2 hfa2 (h + 1 + i' + (t - (k + 1))) (h9 + 1 + j' + (t - (k + 1))) (k + 1))) := by
                        have h8 := u8.1
                        rw [cl_nI xB (by omega), hval, cpy_bw1 hk8] at h8
                        exact h8
                      obtain ⟨v71, ev71⟩ : ∃ z : Int32, z = y + 1 := ⟨_, rfl⟩
                      refine lv_iinc (v := v71) (lv' := [(10, .int v71), (11, .int v63), (9, .int 1), (8, .int v), (7, .int (nI h9)), (6, .int (nI h)), (0, .ref x), (1, .int a), (2, .int (nI i')), (3, .int b), (4, .int (nI j')), (5, .int (nI n'))]) hx hb dX6_move_169 hl (k := 1) rfl (by rw [ev71]; rfl) (by decide) rfl (fun ls hl => ?_)
                      refine lv_goto (tgt := 114) hx hb dX6_move_172 (by decide) ?_
                      exact ih (ls := ls) (k := k + 1) (y := v71) (ws7 := ws8) (H7 := H8) (lc7 := lc8) (hk7 := by omega) (hy := by rw [ev71, hy]; exact nI_1 k) (q1 := u8.keep nn8.1.1 q1) (q2 := hq2) (q3 := u8.keep nn8.2.1.symm q3) (q4 := u8.keep nn8.2.2.1.symm q4) (w7 := w8) (hl := lv_sub hl [0, 2, 3, 4, 5, 6, 7, 8, 9, 10, 11] rfl) (hg := by omega)
            · refine lv_aload_n hx hb dX6_move_53 rfl (lv_at hl 3 rfl) ?_
              refine lv_iload hx hb dX6_move_54 (lv_at hl 1 rfl) ?_
              refine k_vi S9 wa2 (c_misOfObjects l _ hRa2 (Inv.sc hI (upd (upd (s_c S) 3 0) 4 v7) rfl rfl) ho9) xa2 rfl (cwV 1 hts gX6_move_X6_isOfObjects rfl rfl rfl (by decide +kernel) ⟨Nat.le_of_ble_eq_true rfl, Nat.le_of_ble_eq_true rfl⟩) rfl hl.1 rfl (Nat.le_of_ble_eq_true rfl) dX6_move_56 ⟨Nat.le_of_ble_eq_true rfl, Nat.le_of_ble_eq_true rfl⟩ (fun r72 er72 => ?_)
              rw [if_pos (by omega)] at er72
              subst er72
              refine lv_if_eq (tgt := 85) hx hb dX6_move_59 (by decide) (fun c_59 => absurd c_59 (by decide)) (fun c_59 => ?_)
              refine lv_aload_n hx hb dX6_move_62 rfl (lv_at hl 3 rfl) ?_
              refine lv_aload_n hx hb dX6_move_63 rfl (lv_at hl 3 rfl) ?_
              refine lv_iload hx hb dX6_move_64 (lv_at hl 2 rfl) ?_
              refine lv_iload_n hx hb dX6_move_66 rfl (lv_at hl 5 rfl) ?_
              refine lv_iload hx hb dX6_move_67 (lv_at hl 0 rfl) ?_
              refine lv_iadd hx hb dX6_move_69 ?_
              refine lv_topi (fun v73 ev73 => ?_)
              have ht5 := nge_nI hv ht (by omega) c_50
              refine k_vi S9 wa2 (c_mobject l _ hRa2 (Inv.sc hI (upd (upd (s_c S) 3 0) 4 v7) rfl rfl) ho hk k6 v73 (i' + t) (by rw [ev73, hv]; exact nI_add i' t) (by omega)) xa2 rfl (cwV 2 hts gX6_move_X6_object rfl rfl rfl (by decide +kernel) ⟨Nat.le_of_ble_eq_true rfl, Nat.le_of_ble_eq_true rfl⟩) rfl hl.1 rfl (Nat.le_of_ble_eq_true rfl) dX6_move_70 ⟨Nat.le_of_ble_eq_true rfl, Nat.le_of_ble_eq_true rfl⟩ (fun r74 er74 => ?_)
              cases he : o_e o (i' + t) with
              | none =>
                rw [he] at er74
                replace er74 : r74 = (-1) := er74
                subst er74
                refine lv_aload_n hx hb dX6_move_73 rfl (lv_at hl 3 rfl) ?_
                refine lv_iload hx hb dX6_move_74 (lv_at hl 1 rfl) ?_
                refine k_vi S9 wa2 (c_mkind l _ hRa2 (Inv.sc hI (upd (upd (s_c S) 3 0) 4 v7) rfl rfl) ho9) xa2 rfl (cwV 1 hts gX6_move_X6_kind rfl rfl rfl (by decide +kernel) ⟨Nat.le_of_ble_eq_true rfl, Nat.le_of_ble_eq_true rfl⟩) rfl hl.1 rfl (Nat.le_of_ble_eq_true rfl) dX6_move_76 ⟨Nat.le_of_ble_eq_true rfl, Nat.le_of_ble_eq_true rfl⟩ (fun r75 er75 => ?_)
                subst er75
                refine k_vi S9 wa2 (c_mfits_N l _ (nI (o_k o9))) xa2 rfl (cwV 2 hts gX6_move_X6_fits rfl rfl rfl (by decide +kernel) ⟨Nat.le_of_ble_eq_true rfl, Nat.le_of_ble_eq_true rfl⟩) rfl hl.1 rfl (Nat.le_of_ble_eq_true rfl) dX6_move_79 ⟨Nat.le_of_ble_eq_true rfl, Nat.le_of_ble_eq_true rfl⟩ (fun v10 e10 => ?_)
                subst e10
                refine lv_if_eq (tgt := 91) hx hb dX6_move_82 (by decide) (fun c_82 => absurd c_82 (by decide)) (fun c_82 => ?_)
                obtain ⟨v76, ev76⟩ : ∃ z : Int32, z = v + 1 := ⟨_, rfl⟩
                refine lv_iinc (v := v76) (lv' := [(8, .int v76), (7, .int (nI h9)), (6, .int (nI h)), (0, .ref x), (1, .int a), (2, .int (nI i')), (3, .int b), (4, .int (nI j')), (5, .int (nI n'))]) hx hb dX6_move_85 hl (k := 0) rfl (by rw [ev76]; rfl) (by decide) rfl (fun ls hl => ?_)
                refine lv_goto (tgt := 46) hx hb dX6_move_88 (by decide) ?_
                have ht4 := nge_nI hv ht (by omega) c_50
                have hfit : fitE S (o_k o9) (o_e o (i' + t)) = true := by rw [he]; rfl
                exact ih (ls := ls) (t := t + 1) (v := v76) (ht := by omega) (hv := by rw [ev76, hv]; exact nI_1 t) (hF := by rw [hF, fitN_step ht4 hfit]) (hl := lv_sub hl [0, 1, 2, 3, 4, 5, 6, 7, 8] rfl) (hg := by omega)
              | some h4 =>
                rw [he] at er74
                replace er74 : r74 = nI h4 := er74
                subst er74
                obtain ⟨o4, ho4⟩ := hI.el ho hk k6 _ h4 he
                refine lv_aload_n hx hb dX6_move_73 rfl (lv_at hl 3 rfl) ?_
                refine lv_iload hx hb dX6_move_74 (lv_at hl 1 rfl) ?_
                refine k_vi S9 wa2 (c_mkind l _ hRa2 (Inv.sc hI (upd (upd (s_c S) 3 0) 4 v7) rfl rfl) ho9) xa2 rfl (cwV 1 hts gX6_move_X6_kind rfl rfl rfl (by decide +kernel) ⟨Nat.le_of_ble_eq_true rfl, Nat.le_of_ble_eq_true rfl⟩) rfl hl.1 rfl (Nat.le_of_ble_eq_true rfl) dX6_move_76 ⟨Nat.le_of_ble_eq_true rfl, Nat.le_of_ble_eq_true rfl⟩ (fun r77 er77 => ?_)
                subst er77
                refine k_vi S9 wa2 (c_mfits_S l _ hRa2 (Inv.sc hI (upd (upd (s_c S) 3 0) 4 v7) rfl rfl) ho4 (o_k o9) hk9 k9) xa2 rfl (cwV 2 hts gX6_move_X6_fits rfl rfl rfl (by decide +kernel) ⟨Nat.le_of_ble_eq_true rfl, Nat.le_of_ble_eq_true rfl⟩) rfl hl.1 rfl (Nat.le_of_ble_eq_true rfl) dX6_move_79 ⟨Nat.le_of_ble_eq_true rfl, Nat.le_of_ble_eq_true rfl⟩ (fun v10 e10 => ?_)
                replace e10 : v10 = if fitE S (o_k o9) (some h4) then 1 else 0 := e10
                cases hfe : fitE S (o_k o9) (some h4) with
                | false =>
                  rw [hfe] at e10
                  replace e10 : v10 = 0 := e10
                  subst e10
                  refine lv_if_eq (tgt := 91) hx hb dX6_move_82 (by decide) (fun c_82 => ?_) (fun c_82 => absurd c_82 (by decide))
                  have hT : fitN S (o_k o9) (o_e o) n' i' = t := by
                    rw [hF]
                    exact fitN_stop (nge_nI hv ht (by omega) c_50) (by rw [he]; exact hfe)
                  clear ih
                  refine lv_iload hx hb dX6_move_91 (lv_at hl 2 rfl) ?_
                  refine lv_iload hx hb dX6_move_93 (lv_at hl 1 rfl) ?_
                  refine lv_icmp_ne (tgt := 108) hx hb dX6_move_95 (by decide) (fun c_95 => ?_) (fun c_95 => ?_)
                  · have hne : h ≠ h9 := fun q => c_95 (by rw [q])
                    have safe : ∀ z q, z < t → q < z → h + 1 + i' + z ≠ h9 + 1 + j' + q := fun z q hz hq => by
                      have := (seg hI ho ho9 hne (j := i' + z) (by omega)).2 (j' + q) (by omega)
                      omega
                    refine lv_iconst (v := 0) hx hb dX6_move_108 (by decide) ?_
                    refine lv_istore (lv' := [(9, .int 0), (8, .int v), (7, .int (nI h9)), (6, .int (nI h)), (0, .ref x), (1, .int a), (2, .int (nI i')), (3, .int b), (4, .int (nI j')), (5, .int (nI n'))]) hx hb dX6_move_109 hl (by decide) rfl (fun ls hl => ?_)
                    refine lv_iconst (v := 0) hx hb dX6_move_111 (by decide) ?_
                    refine lv_istore (lv' := [(10, .int 0), (9, .int 0), (8, .int v), (7, .int (nI h9)), (6, .int (nI h)), (0, .ref x), (1, .int a), (2, .int (nI i')), (3, .int b), (4, .int (nI j')), (5, .int (nI n'))]) hx hb dX6_move_112 hl (by decide) rfl (fun ls hl => ?_)
                    obtain ⟨k, ws7, H7, lc7, hk7, hy, q1, q2, q3, q4, w7, eH, eL⟩ : ∃ (k : Nat) (ws7 : va_W) (H7 : Heap) (lc7 : List Loc), k ≤ t ∧ (0 : Int32) = nI k ∧ hp ws7 x (.inr (4, [.ref ha, .int (nI (s_u S)), .ref at_, .ref li, .int (s_c S 0), .int (s_c S 2), .int v7, .int (0 : Int32), .int (s_c S 5), .int (s_c S 6)])) ∧ hp ws7 ha (aJ G 60000 (va_cpy hfa2 hfa2 (h + 1 + i') (h9 + 1 + j') (k))) ∧ hp ws7 at_ (aI G 400 afa2) ∧ hp ws7 li (aI G 320 (s_l S)) ∧ Wd G (va_A ws s.heap.size) s ws7 H7 lc7 ∧ _ = H7 ∧ _ = lc7 := ⟨0, _, _, _, by omega, rfl, xa2, by simp only [va_cpy_0, Nat.sub_zero]; exact m2a2, m3a2, m4a2, wa2, rfl, rfl⟩
                    refine W_at eH eL ?_
                    clear eH eL
                    obtain ⟨y, hy0⟩ : ∃ y : Int32, y = 0 := ⟨_, rfl⟩
                    replace hl : lv_has ls 12 [(10, .int y), (9, .int 0), (8, .int v), (7, .int (nI h9)), (6, .int (nI h)), (0, .ref x), (1, .int a), (2, .int (nI i')), (3, .int b), (4, .int (nI j')), (5, .int (nI n'))] := by rw [hy0]; exact lv_sub hl [0, 1, 2, 3, 4, 5, 6, 7, 8, 9, 10] rfl
                    rw [← hy0] at hy
                    clear hy0
                    obtain ⟨g2, hg⟩ : ∃ g2, t - k < g2 := ⟨_, Nat.lt_succ_self _⟩
                    induction g2 generalizing k y ls ws7 H7 lc7 with
                    | zero => exact absurd hg (Nat.not_lt_zero _)
                    | succ g2 ih =>
                      refine lv_iload hx hb dX6_move_114 (lv_at hl 0 rfl) ?_
                      refine lv_iload hx hb dX6_move_116 (lv_at hl 2 rfl) ?_
                      refine lv_icmp_ge (tgt := 175) hx hb dX6_move_118 (by decide) (fun c_118 => ?_) (fun c_118 => ?_)
                      · have hkt : k = t := ge_nI (n := t) hy hk7 (by omega) (by rw [← hv]; exact c_118)
                        have q5 : hp ws7 ha (aJ G 60000 (va_cpy hfa2 hfa2 (h + 1 + i') (h9 + 1 + j') t)) := by
                          rw [hkt] at q2
                          exact q2
                        have hRq : RpM G x ha at_ li (s_u S, va_up (s_o S) h9 (some (o_sete o9 (va_cpy (o_e o) (o_e o9) i' j' t))), s_s S, s_l S, upd (upd (s_c S) 3 0) 4 v7) ws7 := ⟨_, _, q1, q5, q3, q4, m5a2, HpM.cpyO hI m6a2 ho ho9 hk k6 hk9 k9 (by omega) (by omega)⟩
                        refine lv_aload_n hx hb dX6_move_175 rfl (lv_at hl 5 rfl) ?_
                        refine lv_iload hx hb dX6_move_176 (lv_at hl 2 rfl) ?_
                        refine r_put (ref := "SpanMoverModel") S9 w7 q1 rfl (by decide +kernel) tyX6_ok nmX6 7 (by decide) (by decide +kernel) (Or.inl rfl) rfl rfl rfl (Nat.le_of_ble_eq_true rfl) dX6_move_178 (fun wsa3 Ha3 lca3 ua3 wa3 => ?_)
                        have hRa3 := RpM.sc (f := upd (upd (upd (s_c S) 3 0) 4 v7) 3 v) w7.2.1 hRq q1 ua3 rfl
                        replace hRa3 : RpM G x ha at_ li (s_u S, va_up (s_o S) h9 (some (o_sete o9 (va_cpy (o_e o) (o_e o9) i' j' t))), s_s S, s_l S, upd (upd (upd (s_c S) 3 0) 4 v7) 3 v) wsa3 := hRa3
                        obtain ⟨hfa3, afa3, m1a3, m2a3, m3a3, m4a3, m5a3, m6a3⟩ := id hRa3
                        have xa3 : hp wsa3 x (.inr (4, [.ref ha, .int (nI (s_u S)), .ref at_, .ref li, .int (s_c S 0), .int (s_c S 2), .int v7, .int v, .int (s_c S 5), .int (s_c S 6)])) := m1a3
                        refine lv_aload_n hx hb dX6_move_181 rfl (lv_at hl 5 rfl) ?_
                        refine lv_iload hx hb dX6_move_182 (lv_at hl 2 rfl) ?_
                        refine lv_iload hx hb dX6_move_184 (lv_at hl 10 rfl) ?_
                        refine lv_icmp_ge (tgt := 193) hx hb dX6_move_186 (by decide) (fun c_186 => ?_) (fun c_186 => ?_)
                        · have hfull : t = n' := ge_nI hv ht (by omega) c_186
                          refine lv_iconst (v := 0) hx hb dX6_move_193 (by decide) ?_
                          refine r_put (ref := "SpanMoverModel") S9 wa3 xa3 rfl (by decide +kernel) tyX6_ok nmX6 6 (by decide) (by decide +kernel) (Or.inl rfl) rfl rfl rfl (Nat.le_of_ble_eq_true rfl) dX6_move_194 (fun wsa4 Ha4 lca4 ua4 wa4 => ?_)
                          have hRa4 := RpM.sc (f := upd (upd (upd (upd (s_c S) 3 0) 4 v7) 3 v) 4 0) wa3.2.1 hRa3 xa3 ua4 rfl
                          replace hRa4 : RpM G x ha at_ li (s_u S, va_up (s_o S) h9 (some (o_sete o9 (va_cpy (o_e o) (o_e o9) i' j' t))), s_s S, s_l S, upd (upd (upd (upd (s_c S) 3 0) 4 v7) 3 v) 4 0) wsa4 := hRa4
                          obtain ⟨hfa4, afa4, m1a4, m2a4, m3a4, m4a4, m5a4, m6a4⟩ := id hRa4
                          have xa4 : hp wsa4 x (.inr (4, [.ref ha, .int (nI (s_u S)), .ref at_, .ref li, .int (s_c S 0), .int (s_c S 2), .int (0 : Int32), .int v, .int (s_c S 5), .int (s_c S 6)])) := m1a4
                          refine lv_aload_n hx hb dX6_move_197 rfl (lv_at hl 5 rfl) ?_
                          refine r_get (ref := "SpanMoverModel") S9 wa4 xa4 rfl (by decide +kernel) 6 (by decide) (by decide +kernel) (Or.inl rfl) rfl dX6_move_198 ?_
                          refine lv_if_ne (tgt := 217) hx hb dX6_move_201 (by decide) (fun c_201 => absurd c_201 (by decide)) (fun c_201 => ?_)
                          refine lv_aload_n hx hb dX6_move_204 rfl (lv_at hl 5 rfl) ?_
                          refine lv_dup hx hb dX6_move_205 rfl ?_
                          refine r_get (ref := "SpanMoverModel") S9 wa4 xa4 rfl (by decide +kernel) 8 (by decide) (by decide +kernel) (Or.inl rfl) rfl dX6_move_206 ?_
                          refine lv_iconst (v := 1) hx hb dX6_move_209 (by decide) ?_
                          refine lv_iadd hx hb dX6_move_210 ?_
                          refine lv_topi (fun v78 ev78 => ?_)
                          refine r_put (ref := "SpanMoverModel") S9 wa4 xa4 rfl (by decide +kernel) tyX6_ok nmX6 8 (by decide) (by decide +kernel) (Or.inl rfl) rfl rfl rfl (Nat.le_of_ble_eq_true rfl) dX6_move_211 (fun wsa5 Ha5 lca5 ua5 wa5 => ?_)
                          have hRa5 := RpM.sc (f := upd (upd (upd (upd (upd (s_c S) 3 0) 4 v7) 3 v) 4 0) 5 v78) wa4.2.1 hRa4 xa4 ua5 rfl
                          replace hRa5 : RpM G x ha at_ li (s_u S, va_up (s_o S) h9 (some (o_sete o9 (va_cpy (o_e o) (o_e o9) i' j' t))), s_s S, s_l S, upd (upd (upd (upd (upd (s_c S) 3 0) 4 v7) 3 v) 4 0) 5 v78) wsa5 := hRa5
                          obtain ⟨hfa5, afa5, m1a5, m2a5, m3a5, m4a5, m5a5, m6a5⟩ := id hRa5
                          have xa5 : hp wsa5 x (.inr (4, [.ref ha, .int (nI (s_u S)), .ref at_, .ref li, .int (s_c S 0), .int (s_c S 2), .int (0 : Int32), .int v, .int v78, .int (s_c S 6)])) := m1a5
                          refine lv_goto (tgt := 227) hx hb dX6_move_214 (by decide) ?_
                          refine lv_aload_n hx hb dX6_move_227 rfl (lv_at hl 5 rfl) ?_
                          refine r_get (ref := "SpanMoverModel") S9 wa5 xa5 rfl (by decide +kernel) 6 (by decide) (by decide +kernel) (Or.inl rfl) rfl dX6_move_228 ?_
                          exact ew_i S9 hr hlk wa5 (by have hM2 : mvR S h9 o o9 (nI i') (nI j') (nI n') = (0, v, va_up (s_o S) h9 (some (o_sete o9 (va_cpy (o_e o) (o_e o9) i' j' t)))) := (by unfold mvR; rw [if_neg (fun q => q s1), if_neg (fun q => q s2), if_neg (by omega), y1, y2, y3, hT, if_pos hfull, hv]); rw [show sp_move S a (nI i') b (nI j') (nI n') = (0, (s_u S, va_up (s_o S) h9 (some (o_sete o9 (va_cpy (o_e o) (o_e o9) i' j' t))), s_s S, s_l S, upd (upd (upd (upd (upd (s_c S) 3 0) 4 v7) 3 v) 4 0) 5 v78)) from by simp only [sp_move, hMv, hM2, mvc, if_pos, ev78, upd_43]]; exact ⟨rfl, hRa5⟩) dX6_move_231 (by decide) (by decide)
                        · have hfull : ¬ t = n' := fun q => c_186 (by rw [hv, q]; exact Int32.le_refl _)
                          refine lv_iconst (v := 5) hx hb dX6_move_189 (by decide) ?_
                          refine lv_goto (tgt := 194) hx hb dX6_move_190 (by decide) ?_
                          refine r_put (ref := "SpanMoverModel") S9 wa3 xa3 rfl (by decide +kernel) tyX6_ok nmX6 6 (by decide) (by decide +kernel) (Or.inl rfl) rfl rfl rfl (Nat.le_of_ble_eq_true rfl) dX6_move_194 (fun wsa4 Ha4 lca4 ua4 wa4 => ?_)
                          have hRa4 := RpM.sc (f := upd (upd (upd (upd (s_c S) 3 0) 4 v7) 3 v) 4 5) wa3.2.1 hRa3 xa3 ua4 rfl
                          replace hRa4 : RpM G x ha at_ li (s_u S, va_up (s_o S) h9 (some (o_sete o9 (va_cpy (o_e o) (o_e o9) i' j' t))), s_s S, s_l S, upd (upd (upd (upd (s_c S) 3 0) 4 v7) 3 v) 4 5) wsa4 := hRa4
                          obtain ⟨hfa4, afa4, m1a4, m2a4, m3a4, m4a4, m5a4, m6a4⟩ := id hRa4
                          have xa4 : hp wsa4 x (.inr (4, [.ref ha, .int (nI (s_u S)), .ref at_, .ref li, .int (s_c S 0), .int (s_c S 2), .int (5 : Int32), .int v, .int (s_c S 5), .int (s_c S 6)])) := m1a4
                          refine lv_aload_n hx hb dX6_move_197 rfl (lv_at hl 5 rfl) ?_
                          refine r_get (ref := "SpanMoverModel") S9 wa4 xa4 rfl (by decide +kernel) 6 (by decide) (by decide +kernel) (Or.inl rfl) rfl dX6_move_198 ?_
                          refine lv_if_ne (tgt := 217) hx hb dX6_move_201 (by decide) (fun c_201 => ?_) (fun c_201 => absurd c_201 (by decide))
                          refine lv_aload_n hx hb dX6_move_217 rfl (lv_at hl 5 rfl) ?_
                          refine lv_dup hx hb dX6_move_218 rfl ?_
                          refine r_get (ref := "SpanMoverModel") S9 wa4 xa4 rfl (by decide +kernel) 9 (by decide) (by decide +kernel) (Or.inl rfl) rfl dX6_move_219 ?_
                          refine lv_iconst (v := 1) hx hb dX6_move_222 (by decide) ?_
                          refine lv_iadd hx hb dX6_move_223 ?_
                          refine lv_topi (fun v79 ev79 => ?_)
                          refine r_put (ref := "SpanMoverModel") S9 wa4 xa4 rfl (by decide +kernel) tyX6_ok nmX6 9 (by decide) (by decide +kernel) (Or.inl rfl) rfl rfl rfl (Nat.le_of_ble_eq_true rfl) dX6_move_224 (fun wsa5 Ha5 lca5 ua5 wa5 => ?_)
                          have hRa5 := RpM.sc (f := upd (upd (upd (upd (upd (s_c S) 3 0) 4 v7) 3 v) 4 5) 6 v79) wa4.2.1 hRa4 xa4 ua5 rfl
                          replace hRa5 : RpM G x ha at_ li (s_u S, va_up (s_o S) h9 (some (o_sete o9 (va_cpy (o_e o) (o_e o9) i' j' t))), s_s S, s_l S, upd (upd (upd (upd (upd (s_c S) 3 0) 4 v7) 3 v) 4 5) 6 v79) wsa5 := hRa5
                          obtain ⟨hfa5, afa5, m1a5, m2a5, m3a5, m4a5, m5a5, m6a5⟩ := id hRa5
                          have xa5 : hp wsa5 x (.inr (4, [.ref ha, .int (nI (s_u S)), .ref at_, .ref li, .int (s_c S 0), .int (s_c S 2), .int (5 : Int32), .int v, .int (s_c S 5), .int v79])) := m1a5
                          refine lv_aload_n hx hb dX6_move_227 rfl (lv_at hl 5 rfl) ?_
                          refine r_get (ref := "SpanMoverModel") S9 wa5 xa5 rfl (by decide +kernel) 6 (by decide) (by decide +kernel) (Or.inl rfl) rfl dX6_move_228 ?_
                          exact ew_i S9 hr hlk wa5 (by have hM2 : mvR S h9 o o9 (nI i') (nI j') (nI n') = (5, v, va_up (s_o S) h9 (some (o_sete o9 (va_cpy (o_e o) (o_e o9) i' j' t)))) := (by unfold mvR; rw [if_neg (fun q => q s1), if_neg (fun q => q s2), if_neg (by omega), y1, y2, y3, hT, if_neg hfull, hv]); rw [show sp_move S a (nI i') b (nI j') (nI n') = (5, (s_u S, va_up (s_o S) h9 (some (o_sete o9 (va_cpy (o_e o) (o_e o9) i' j' t))), s_s S, s_l S, upd (upd (upd (upd (upd (s_c S) 3 0) 4 v7) 3 v) 4 5) 6 v79)) from by simp only [sp_move, hMv, hM2, mvc, if_neg (show ¬ (5 : Int32) = 0 by decide), ev79, upd_43]]; exact ⟨rfl, hRa5⟩) dX6_move_231 (by decide) (by decide)
                      · refine lv_iload hx hb dX6_move_121 (lv_at hl 1 rfl) ?_
                        refine lv_if_eq (tgt := 136) hx hb dX6_move_123 (by decide) (fun c_123 => ?_) (fun c_123 => absurd c_123 (by decide))
                        refine lv_iload hx hb dX6_move_136 (lv_at hl 0 rfl) ?_
                        have hk8 := nge_nI (n := t) hy hk7 (by omega) (by rw [← hv]; exact c_118)
                        have he1 : y = nI k := hy
                        refine lv_istore (lv' := [(11, .int y), (10, .int y), (9, .int 0), (8, .int v), (7, .int (nI h9)), (6, .int (nI h)), (0, .ref x), (1, .int a), (2, .int (nI i')), (3, .int b), (4, .int (nI j')), (5, .int (nI n'))]) hx hb dX6_move_138 hl (by decide) rfl (fun ls hl => ?_)
                        refine lv_aload_n hx hb dX6_move_140 rfl (lv_at hl 6 rfl) ?_
                        refine r_get (ref := "SpanMoverModel") S9 w7 q1 rfl (by decide +kernel) 0 (by decide) (by decide +kernel) (Or.inl rfl) rfl dX6_move_141 ?_
                        refine lv_iload hx hb dX6_move_144 (lv_at hl 4 rfl) ?_
                        refine lv_iconst (v := 1) hx hb dX6_move_146 (by decide) ?_
                        refine lv_iadd hx hb dX6_move_147 ?_
                        refine lv_topi (fun v80 ev80 => ?_)
                        refine lv_iload hx hb dX6_move_148 (lv_at hl 10 rfl) ?_
                        refine lv_iadd hx hb dX6_move_150 ?_
                        refine lv_topi (fun v81 ev81 => ?_)
                        refine lv_iload hx hb dX6_move_151 (lv_at hl 0 rfl) ?_
                        refine lv_iadd hx hb dX6_move_153 ?_
                        refine lv_topi (fun v82 ev82 => ?_)
                        refine lv_aload_n hx hb dX6_move_154 rfl (lv_at hl 6 rfl) ?_
                        refine r_get (ref := "SpanMoverModel") S9 w7 q1 rfl (by decide +kernel) 0 (by decide) (by decide +kernel) (Or.inl rfl) rfl dX6_move_155 ?_
                        refine lv_iload hx hb dX6_move_158 (lv_at hl 5 rfl) ?_
                        refine lv_iconst (v := 1) hx hb dX6_move_160 (by decide) ?_
                        refine lv_iadd hx hb dX6_move_161 ?_
                        refine lv_topi (fun v83 ev83 => ?_)
                        refine lv_iload_n hx hb dX6_move_162 rfl (lv_at hl 8 rfl) ?_
                        refine lv_iadd hx hb dX6_move_163 ?_
                        refine lv_topi (fun v84 ev84 => ?_)
                        refine lv_iload hx hb dX6_move_164 (lv_at hl 0 rfl) ?_
                        refine lv_iadd hx hb dX6_move_166 ?_
                        refine lv_topi (fun v85 ev85 => ?_)
                        refine r_lald S9 w7 q2 (by rw [show v85 = nI (h + 1 + i' + (k)) from by rw [ev85, ev84, ev83, he1]; exact idx3]; exact vp_in_nI (by omega) (by decide)) dX6_move_167 ?_
                        refine lv_topl (fun v86 ev86 => ?_)
                        have xB : v82 = nI (h9 + 1 + j' + (k)) := by rw [ev82, ev81, ev80, he1]; exact idx3
                        have xA : v85 = nI (h + 1 + i' + (k)) := by rw [ev85, ev84, ev83, he1]; exact idx3
                        refine r_last S9 w7 q2 (by rw [xB]; exact vp_in_nI (by omega) (by decide)) dX6_move_168 (fun ws8 H8 lc8 u8 w8 => ?_)
                        have nn8 := mne w7.2.1 q1 q2 q3 q4
                        have hval : v86 = hfa2 (h + 1 + i' + k) := by rw [ev86, cl_nI xA (by omega)]; exact cpy_fw (fun q hq => safe k q hk8 hq)
                        have hq2 : hp ws8 ha (aJ G 60000 (va_cpy hfa2 hfa2 (h + 1 + i') (h9 + 1 + j') (k + 1))) := by
                          have h8 := u8.1
                          rw [cl_nI xB (by omega), hval, cpy_fw1] at h8
                          exact h8
                        obtain ⟨v87, ev87⟩ : ∃ z : Int32, z = y + 1 := ⟨_, rfl⟩
                        refine lv_iinc (v := v87) (lv' := [(10, .int v87), (11, .int y), (9, .int 0), (8, .int v), (7, .int (nI h9)), (6, .int (nI h)), (0, .ref x), (1, .int a), (2, .int (nI i')), (3, .int b), (4, .int (nI j')), (5, .int (nI n'))]) hx hb dX6_move_169 hl (k := 1) rfl (by rw [ev87]; rfl) (by decide) rfl (fun ls hl => ?_)
                        refine lv_goto (tgt := 114) hx hb dX6_move_172 (by decide) ?_
                        exact ih (ls := ls) (k := k + 1) (y := v87) (ws7 := ws8) (H7 := H8) (lc7 := lc8) (hk7 := by omega) (hy := by rw [ev87, hy]; exact nI_1 k) (q1 := u8.keep nn8.1.1 q1) (q2 := hq2) (q3 := u8.keep nn8.2.1.symm q3) (q4 := u8.keep nn8.2.2.1.symm q4) (w7 := w8) (hl := lv_sub hl [0, 2, 3, 4, 5, 6, 7, 8, 9, 10, 11] rfl) (hg := by omega)
                  · have heq : h = h9 := (nI_eq (by omega) (by omega)).mp c_95
                    refine lv_iload_n hx hb dX6_move_98 rfl (lv_at hl 5 rfl) ?_
                    refine lv_iload hx hb dX6_move_99 (lv_at hl 7 rfl) ?_
                    refine lv_icmp_ge (tgt := 108) hx hb dX6_move_101 (by decide) (fun c_101 => ?_) (fun c_101 => ?_)
                    · have hle := (nI_leI (by omega) (by omega)).mp c_101
                      have safe : ∀ z q, z < t → q < z → h + 1 + i' + z ≠ h9 + 1 + j' + q := fun z q hz hq => by omega
                      refine lv_iconst (v := 0) hx hb dX6_move_108 (by decide) ?_
                      refine lv_istore (lv' := [(9, .int 0), (8, .int v), (7, .int (nI h9)), (6, .int (nI h)), (0, .ref x), (1, .int a), (2, .int (nI i')), (3, .int b), (4, .int (nI j')), (5, .int (nI n'))]) hx hb dX6_move_109 hl (by decide) rfl (fun ls hl => ?_)
                      refine lv_iconst (v := 0) hx hb dX6_move_111 (by decide) ?_
                      refine lv_istore (lv' := [(10, .int 0), (9, .int 0), (8, .int v), (7, .int (nI h9)), (6, .int (nI h)), (0, .ref x), (1, .int a), (2, .int (nI i')), (3, .int b), (4, .int (nI j')), (5, .int (nI n'))]) hx hb dX6_move_112 hl (by decide) rfl (fun ls hl => ?_)
                      obtain ⟨k, ws7, H7, lc7, hk7, hy, q1, q2, q3, q4, w7, eH, eL⟩ : ∃ (k : Nat) (ws7 : va_W) (H7 : Heap) (lc7 : List Loc), k ≤ t ∧ (0 : Int32) = nI k ∧ hp ws7 x (.inr (4, [.ref ha, .int (nI (s_u S)), .ref at_, .ref li, .int (s_c S 0), .int (s_c S 2), .int v7, .int (0 : Int32), .int (s_c S 5), .int (s_c S 6)])) ∧ hp ws7 ha (aJ G 60000 (va_cpy hfa2 hfa2 (h + 1 + i') (h9 + 1 + j') (k))) ∧ hp ws7 at_ (aI G 400 afa2) ∧ hp ws7 li (aI G 320 (s_l S)) ∧ Wd G (va_A ws s.heap.size) s ws7 H7 lc7 ∧ _ = H7 ∧ _ = lc7 := ⟨0, _, _, _, by omega, rfl, xa2, by simp only [va_cpy_0, Nat.sub_zero]; exact m2a2, m3a2, m4a2, wa2, rfl, rfl⟩
                      refine W_at eH eL ?_
                      clear eH eL
                      obtain ⟨y, hy0⟩ : ∃ y : Int32, y = 0 := ⟨_, rfl⟩
                      replace hl : lv_has ls 12 [(10, .int y), (9, .int 0), (8, .int v), (7, .int (nI h9)), (6, .int (nI h)), (0, .ref x), (1, .int a), (2, .int (nI i')), (3, .int b), (4, .int (nI j')), (5, .int (nI n'))] := by rw [hy0]; exact lv_sub hl [0, 1, 2, 3, 4, 5, 6, 7, 8, 9, 10] rfl
                      rw [← hy0] at hy
                      clear hy0
                      obtain ⟨g2, hg⟩ : ∃ g2, t - k < g2 := ⟨_, Nat.lt_succ_self _⟩
                      induction g2 generalizing k y ls ws7 H7 lc7 with
                      | zero => exact absurd hg (Nat.not_lt_zero _)
                      | succ g2 ih =>
                        refine lv_iload hx hb dX6_move_114 (lv_at hl 0 rfl) ?_
                        refine lv_iload hx hb dX6_move_116 (lv_at hl 2 rfl) ?_
                        refine lv_icmp_ge (tgt := 175) hx hb dX6_move_118 (by decide) (fun c_118 => ?_) (fun c_118 => ?_)
                        · have hkt : k = t := ge_nI (n := t) hy hk7 (by omega) (by rw [← hv]; exact c_118)
                          have q5 : hp ws7 ha (aJ G 60000 (va_cpy hfa2 hfa2 (h + 1 + i') (h9 + 1 + j') t)) := by
                            rw [hkt] at q2
                            exact q2
                          have hRq : RpM G x ha at_ li (s_u S, va_up (s_o S) h9 (some (o_sete o9 (va_cpy (o_e o) (o_e o9) i' j' t))), s_s S, s_l S, upd (upd (s_c S) 3 0) 4 v7) ws7 := ⟨_, _, q1, q5, q3, q4, m5a2, HpM.cpyO hI m6a2 ho ho9 hk k6 hk9 k9 (by omega) (by omega)⟩
                          refine lv_aload_n hx hb dX6_move_175 rfl (lv_at hl 5 rfl) ?_
                          refine lv_iload hx hb dX6_move_176 (lv_at hl 2 rfl) ?_
                          refine r_put (ref := "SpanMoverModel") S9 w7 q1 rfl (by decide +kernel) tyX6_ok nmX6 7 (by decide) (by decide +kernel) (Or.inl rfl) rfl rfl rfl (Nat.le_of_ble_eq_true rfl) dX6_move_178 (fun wsa3 Ha3 lca3 ua3 wa3 => ?_)
                          have hRa3 := RpM.sc (f := upd (upd (upd (s_c S) 3 0) 4 v7) 3 v) w7.2.1 hRq q1 ua3 rfl
                          replace hRa3 : RpM G x ha at_ li (s_u S, va_up (s_o S) h9 (some (o_sete o9 (va_cpy (o_e o) (o_e o9) i' j' t))), s_s S, s_l S, upd (upd (upd (s_c S) 3 0) 4 v7) 3 v) wsa3 := hRa3
                          obtain ⟨hfa3, afa3, m1a3, m2a3, m3a3, m4a3, m5a3, m6a3⟩ := id hRa3
                          have xa3 : hp wsa3 x (.inr (4, [.ref ha, .int (nI (s_u S)), .ref at_, .ref li, .int (s_c S 0), .int (s_c S 2), .int v7, .int v, .int (s_c S 5), .int (s_c S 6)])) := m1a3
                          refine lv_aload_n hx hb dX6_move_181 rfl (lv_at hl 5 rfl) ?_
                          refine lv_iload hx hb dX6_move_182 (lv_at hl 2 rfl) ?_
                          refine lv_iload hx hb dX6_move_184 (lv_at hl 10 rfl) ?_
                          refine lv_icmp_ge (tgt := 193) hx hb dX6_move_186 (by decide) (fun c_186 => ?_) (fun c_186 => ?_)
                          · have hfull : t = n' := ge_nI hv ht (by omega) c_186
                            refine lv_iconst (v := 0) hx hb dX6_move_193 (by decide) ?_
                            refine r_put (ref := "SpanMoverModel") S9 wa3 xa3 rfl (by decide +kernel) tyX6_ok nmX6 6 (by decide) (by decide +kernel) (Or.inl rfl) rfl rfl rfl (Nat.le_of_ble_eq_true rfl) dX6_move_194 (fun wsa4 Ha4 lca4 ua4 wa4 => ?_)
                            have hRa4 := RpM.sc (f := upd (upd (upd (upd (s_c S) 3 0) 4 v7) 3 v) 4 0) wa3.2.1 hRa3 xa3 ua4 rfl
                            replace hRa4 : RpM G x ha at_ li (s_u S, va_up (s_o S) h9 (some (o_sete o9 (va_cpy (o_e o) (o_e o9) i' j' t))), s_s S, s_l S, upd (upd (upd (upd (s_c S) 3 0) 4 v7) 3 v) 4 0) wsa4 := hRa4
                            obtain ⟨hfa4, afa4, m1a4, m2a4, m3a4, m4a4, m5a4, m6a4⟩ := id hRa4
                            have xa4 : hp wsa4 x (.inr (4, [.ref ha, .int (nI (s_u S)), .ref at_, .ref li, .int (s_c S 0), .int (s_c S 2), .int (0 : Int32), .int v, .int (s_c S 5), .int (s_c S 6)])) := m1a4
                            refine lv_aload_n hx hb dX6_move_197 rfl (lv_at hl 5 rfl) ?_
                            refine r_get (ref := "SpanMoverModel") S9 wa4 xa4 rfl (by decide +kernel) 6 (by decide) (by decide +kernel) (Or.inl rfl) rfl dX6_move_198 ?_
                            refine lv_if_ne (tgt := 217) hx hb dX6_move_201 (by decide) (fun c_201 => absurd c_201 (by decide)) (fun c_201 => ?_)
                            refine lv_aload_n hx hb dX6_move_204 rfl (lv_at hl 5 rfl) ?_
                            refine lv_dup hx hb dX6_move_205 rfl ?_
                            refine r_get (ref := "SpanMoverModel") S9 wa4 xa4 rfl (by decide +kernel) 8 (by decide) (by decide +kernel) (Or.inl rfl) rfl dX6_move_206 ?_
                            refine lv_iconst (v := 1) hx hb dX6_move_209 (by decide) ?_
                            refine lv_iadd hx hb dX6_move_210 ?_
                            refine lv_topi (fun v88 ev88 => ?_)
                            refine r_put (ref := "SpanMoverModel") S9 wa4 xa4 rfl (by decide +kernel) tyX6_ok nmX6 8 (by decide) (by decide +kernel) (Or.inl rfl) rfl rfl rfl (Nat.le_of_ble_eq_true rfl) dX6_move_211 (fun wsa5 Ha5 lca5 ua5 wa5 => ?_)
                            have hRa5 := RpM.sc (f := upd (upd (upd (upd (upd (s_c S) 3 0) 4 v7) 3 v) 4 0) 5 v88) wa4.2.1 hRa4 xa4 ua5 rfl
                            replace hRa5 : RpM G x ha at_ li (s_u S, va_up (s_o S) h9 (some (o_sete o9 (va_cpy (o_e o) (o_e o9) i' j' t))), s_s S, s_l S, upd (upd (upd (upd (upd (s_c S) 3 0) 4 v7) 3 v) 4 0) 5 v88) wsa5 := hRa5
                            obtain ⟨hfa5, afa5, m1a5, m2a5, m3a5, m4a5, m5a5, m6a5⟩ := id hRa5
                            have xa5 : hp wsa5 x (.inr (4, [.ref ha, .int (nI (s_u S)), .ref at_, .ref li, .int (s_c S 0), .int (s_c S 2), .int (0 : Int32), .int v, .int v88, .int (s_c S 6)])) := m1a5
                            refine lv_goto (tgt := 227) hx hb dX6_move_214 (by decide) ?_
                            refine lv_aload_n hx hb dX6_move_227 rfl (lv_at hl 5 rfl) ?_
                            refine r_get (ref := "SpanMoverModel") S9 wa5 xa5 rfl (by decide +kernel) 6 (by decide) (by decide +kernel) (Or.inl rfl) rfl dX6_move_228 ?_
                            exact ew_i S9 hr hlk wa5 (by have hM2 : mvR S h9 o o9 (nI i') (nI j') (nI n') = (0, v, va_up (s_o S) h9 (some (o_sete o9 (va_cpy (o_e o) (o_e o9) i' j' t)))) := (by unfold mvR; rw [if_neg (fun q => q s1), if_neg (fun q => q s2), if_neg (by omega), y1, y2, y3, hT, if_pos hfull, hv]); rw [show sp_move S a (nI i') b (nI j') (nI n') = (0, (s_u S, va_up (s_o S) h9 (some (o_sete o9 (va_cpy (o_e o) (o_e o9) i' j' t))), s_s S, s_l S, upd (upd (upd (upd (upd (s_c S) 3 0) 4 v7) 3 v) 4 0) 5 v88)) from by simp only [sp_move, hMv, hM2, mvc, if_pos, ev88, upd_43]]; exact ⟨rfl, hRa5⟩) dX6_move_231 (by decide) (by decide)
                          · have hfull : ¬ t = n' := fun q => c_186 (by rw [hv, q]; exact Int32.le_refl _)
                            refine lv_iconst (v := 5) hx hb dX6_move_189 (by decide) ?_
                            refine lv_goto (tgt := 194) hx hb dX6_move_190 (by decide) ?_
                            refine r_put (ref := "SpanMoverModel") S9 wa3 xa3 rfl (by decide +kernel) tyX6_ok nmX6 6 (by decide) (by decide +kernel) (Or.inl rfl) rfl rfl rfl (Nat.le_of_ble_eq_true rfl) dX6_move_194 (fun wsa4 Ha4 lca4 ua4 wa4 => ?_)
                            have hRa4 := RpM.sc (f := upd (upd (upd (upd (s_c S) 3 0) 4 v7) 3 v) 4 5) wa3.2.1 hRa3 xa3 ua4 rfl
                            replace hRa4 : RpM G x ha at_ li (s_u S, va_up (s_o S) h9 (some (o_sete o9 (va_cpy (o_e o) (o_e o9) i' j' t))), s_s S, s_l S, upd (upd (upd (upd (s_c S) 3 0) 4 v7) 3 v) 4 5) wsa4 := hRa4
                            obtain ⟨hfa4, afa4, m1a4, m2a4, m3a4, m4a4, m5a4, m6a4⟩ := id hRa4
                            have xa4 : hp wsa4 x (.inr (4, [.ref ha, .int (nI (s_u S)), .ref at_, .ref li, .int (s_c S 0), .int (s_c S 2), .int (5 : Int32), .int v, .int (s_c S 5), .int (s_c S 6)])) := m1a4
                            refine lv_aload_n hx hb dX6_move_197 rfl (lv_at hl 5 rfl) ?_
                            refine r_get (ref := "SpanMoverModel") S9 wa4 xa4 rfl (by decide +kernel) 6 (by decide) (by decide +kernel) (Or.inl rfl) rfl dX6_move_198 ?_
                            refine lv_if_ne (tgt := 217) hx hb dX6_move_201 (by decide) (fun c_201 => ?_) (fun c_201 => absurd c_201 (by decide))
                            refine lv_aload_n hx hb dX6_move_217 rfl (lv_at hl 5 rfl) ?_
                            refine lv_dup hx hb dX6_move_218 rfl ?_
                            refine r_get (ref := "SpanMoverModel") S9 wa4 xa4 rfl (by decide +kernel) 9 (by decide) (by decide +kernel) (Or.inl rfl) rfl dX6_move_219 ?_
                            refine lv_iconst (v := 1) hx hb dX6_move_222 (by decide) ?_
                            refine lv_iadd hx hb dX6_move_223 ?_
                            refine lv_topi (fun v89 ev89 => ?_)
                            refine r_put (ref := "SpanMoverModel") S9 wa4 xa4 rfl (by decide +kernel) tyX6_ok nmX6 9 (by decide) (by decide +kernel) (Or.inl rfl) rfl rfl rfl (Nat.le_of_ble_eq_true rfl) dX6_move_224 (fun wsa5 Ha5 lca5 ua5 wa5 => ?_)
                            have hRa5 := RpM.sc (f := upd (upd (upd (upd (upd (s_c S) 3 0) 4 v7) 3 v) 4 5) 6 v89) wa4.2.1 hRa4 xa4 ua5 rfl
                            replace hRa5 : RpM G x ha at_ li (s_u S, va_up (s_o S) h9 (some (o_sete o9 (va_cpy (o_e o) (o_e o9) i' j' t))), s_s S, s_l S, upd (upd (upd (upd (upd (s_c S) 3 0) 4 v7) 3 v) 4 5) 6 v89) wsa5 := hRa5
                            obtain ⟨hfa5, afa5, m1a5, m2a5, m3a5, m4a5, m5a5, m6a5⟩ := id hRa5
                            have xa5 : hp wsa5 x (.inr (4, [.ref ha, .int (nI (s_u S)), .ref at_, .ref li, .int (s_c S 0), .int (s_c S 2), .int (5 : Int32), .int v, .int (s_c S 5), .int v89])) := m1a5
                            refine lv_aload_n hx hb dX6_move_227 rfl (lv_at hl 5 rfl) ?_
                            refine r_get (ref := "SpanMoverModel") S9 wa5 xa5 rfl (by decide +kernel) 6 (by decide) (by decide +kernel) (Or.inl rfl) rfl dX6_move_228 ?_
                            exact ew_i S9 hr hlk wa5 (by have hM2 : mvR S h9 o o9 (nI i') (nI j') (nI n') = (5, v, va_up (s_o S) h9 (some (o_sete o9 (va_cpy (o_e o) (o_e o9) i' j' t)))) := (by unfold mvR; rw [if_neg (fun q => q s1), if_neg (fun q => q s2), if_neg (by omega), y1, y2, y3, hT, if_neg hfull, hv]); rw [show sp_move S a (nI i') b (nI j') (nI n') = (5, (s_u S, va_up (s_o S) h9 (some (o_sete o9 (va_cpy (o_e o) (o_e o9) i' j' t))), s_s S, s_l S, upd (upd (upd (upd (upd (s_c S) 3 0) 4 v7) 3 v) 4 5) 6 v89)) from by simp only [sp_move, hMv, hM2, mvc, if_neg (show ¬ (5 : Int32) = 0 by decide), ev89, upd_43]]; exact ⟨rfl, hRa5⟩) dX6_move_231 (by decide) (by decide)
                        · refine lv_iload hx hb dX6_move_121 (lv_at hl 1 rfl) ?_
                          refine lv_if_eq (tgt := 136) hx hb dX6_move_123 (by decide) (fun c_123 => ?_) (fun c_123 => absurd c_123 (by decide))
                          refine lv_iload hx hb dX6_move_136 (lv_at hl 0 rfl) ?_
                          have hk8 := nge_nI (n := t) hy hk7 (by omega) (by rw [← hv]; exact c_118)
                          have he1 : y = nI k := hy
                          refine lv_istore (lv' := [(11, .int y), (10, .int y), (9, .int 0), (8, .int v), (7, .int (nI h9)), (6, .int (nI h)), (0, .ref x), (1, .int a), (2, .int (nI i')), (3, .int b), (4, .int (nI j')), (5, .int (nI n'))]) hx hb dX6_move_138 hl (by decide) rfl (fun ls hl => ?_)
                          refine lv_aload_n hx hb dX6_move_140 rfl (lv_at hl 6 rfl) ?_
                          refine r_get (ref := "SpanMoverModel") S9 w7 q1 rfl (by decide +kernel) 0 (by decide) (by decide +kernel) (Or.inl rfl) rfl dX6_move_141 ?_
                          refine lv_iload hx hb dX6_move_144 (lv_at hl 4 rfl) ?_
                          refine lv_iconst (v := 1) hx hb dX6_move_146 (by decide) ?_
                          refine lv_iadd hx hb dX6_move_147 ?_
                          refine lv_topi (fun v90 ev90 => ?_)
                          refine lv_iload hx hb dX6_move_148 (lv_at hl 10 rfl) ?_
                          refine lv_iadd hx hb dX6_move_150 ?_
                          refine lv_topi (fun v91 ev91 => ?_)
                          refine lv_iload hx hb dX6_move_151 (lv_at hl 0 rfl) ?_
                          refine lv_iadd hx hb dX6_move_153 ?_
                          refine lv_topi (fun v92 ev92 => ?_)
                          refine lv_aload_n hx hb dX6_move_154 rfl (lv_at hl 6 rfl) ?_
                          refine r_get (ref := "SpanMoverModel") S9 w7 q1 rfl (by decide +kernel) 0 (by decide) (by decide +kernel) (Or.inl rfl) rfl dX6_move_155 ?_
                          refine lv_iload hx hb dX6_move_158 (lv_at hl 5 rfl) ?_
                          refine lv_iconst (v := 1) hx hb dX6_move_160 (by decide) ?_
                          refine lv_iadd hx hb dX6_move_161 ?_
                          refine lv_topi (fun v93 ev93 => ?_)
                          refine lv_iload_n hx hb dX6_move_162 rfl (lv_at hl 8 rfl) ?_
                          refine lv_iadd hx hb dX6_move_163 ?_
                          refine lv_topi (fun v94 ev94 => ?_)
                          refine lv_iload hx hb dX6_move_164 (lv_at hl 0 rfl) ?_
                          refine lv_iadd hx hb dX6_move_166 ?_
                          refine lv_topi (fun v95 ev95 => ?_)
                          refine r_lald S9 w7 q2 (by rw [show v95 = nI (h + 1 + i' + (k)) from by rw [ev95, ev94, ev93, he1]; exact idx3]; exact vp_in_nI (by omega) (by decide)) dX6_move_167 ?_
                          refine lv_topl (fun v96 ev96 => ?_)
                          have xB : v92 = nI (h9 + 1 + j' + (k)) := by rw [ev92, ev91, ev90, he1]; exact idx3
                          have xA : v95 = nI (h + 1 + i' + (k)) := by rw [ev95, ev94, ev93, he1]; exact idx3
                          refine r_last S9 w7 q2 (by rw [xB]; exact vp_in_nI (by omega) (by decide)) dX6_move_168 (fun ws8 H8 lc8 u8 w8 => ?_)
                          have nn8 := mne w7.2.1 q1 q2 q3 q4
                          have hval : v96 = hfa2 (h + 1 + i' + k) := by rw [ev96, cl_nI xA (by omega)]; exact cpy_fw (fun q hq => safe k q hk8 hq)
                          have hq2 : hp ws8 ha (aJ G 60000 (va_cpy hfa2 hfa2 (h + 1 + i') (h9 + 1 + j') (k + 1))) := by
                            have h8 := u8.1
                            rw [cl_nI xB (by omega), hval, cpy_fw1] at h8
                            exact h8
                          obtain ⟨v97, ev97⟩ : ∃ z : Int32, z = y + 1 := ⟨_, rfl⟩
                          refine lv_iinc (v := v97) (lv' := [(10, .int v97), (11, .int y), (9, .int 0), (8, .int v), (7, .int (nI h9)), (6, .int (nI h)), (0, .ref x), (1, .int a), (2, .int (nI i')), (3, .int b), (4, .int (nI j')), (5, .int (nI n'))]) hx hb dX6_move_169 hl (k := 1) rfl (by rw [ev97]; rfl) (by decide) rfl (fun ls hl => ?_)
                          refine lv_goto (tgt := 114) hx hb dX6_move_172 (by decide) ?_
                          exact ih (ls := ls) (k := k + 1) (y := v97) (ws7 := ws8) (H7 := H8) (lc7 := lc8) (hk7 := by omega) (hy := by rw [ev97, hy]; exact nI_1 k) (q1 := u8.keep nn8.1.1 q1) (q2 := hq2) (q3 := u8.keep nn8.2.1.symm q3) (q4 := u8.keep nn8.2.2.1.symm q4) (w7 := w8) (hl := lv_sub hl [0, 2, 3, 4, 5, 6, 7, 8, 9, 10, 11] rfl) (hg := by omega)
                    · have hlt : h + 1 + i' < h9 + 1 + j' := by
                        have : ¬ j' ≤ i' := fun q => c_101 ((nI_leI (by omega) (by omega)).mpr q)
                        omega
                      refine lv_iconst (v := 1) hx hb dX6_move_104 (by decide) ?_
                      refine lv_goto (tgt := 109) hx hb dX6_move_105 (by decide) ?_
                      refine lv_istore (lv' := [(9, .int 1), (8, .int v), (7, .int (nI h9)), (6, .int (nI h)), (0, .ref x), (1, .int a), (2, .int (nI i')), (3, .int b), (4, .int (nI j')), (5, .int (nI n'))]) hx hb dX6_move_109 hl (by decide) rfl (fun ls hl => ?_)
                      refine lv_iconst (v := 0) hx hb dX6_move_111 (by decide) ?_
                      refine lv_istore (lv' := [(10, .int 0), (9, .int 1), (8, .int v), (7, .int (nI h9)), (6, .int (nI h)), (0, .ref x), (1, .int a), (2, .int (nI i')), (3, .int b), (4, .int (nI j')), (5, .int (nI n'))]) hx hb dX6_move_112 hl (by decide) rfl (fun ls hl => ?_)
                      obtain ⟨k, ws7, H7, lc7, hk7, hy, q1, q2, q3, q4, w7, eH, eL⟩ : ∃ (k : Nat) (ws7 : va_W) (H7 : Heap) (lc7 : List Loc), k ≤ t ∧ (0 : Int32) = nI k ∧ hp ws7 x (.inr (4, [.ref ha, .int (nI (s_u S)), .ref at_, .ref li, .int (s_c S 0), .int (s_c S 2), .int v7, .int (0 : Int32), .int (s_c S 5), .int (s_c S 6)])) ∧ hp ws7 ha (aJ G 60000 (va_cpy hfa2 hfa2 (h + 1 + i' + (t - (k))) (h9 + 1 + j' + (t - (k))) (k))) ∧ hp ws7 at_ (aI G 400 afa2) ∧ hp ws7 li (aI G 320 (s_l S)) ∧ Wd G (va_A ws s.heap.size) s ws7 H7 lc7 ∧ _ = H7 ∧ _ = lc7 := ⟨0, _, _, _, by omega, rfl, xa2, by simp only [va_cpy_0, Nat.sub_zero]; exact m2a2, m3a2, m4a2, wa2, rfl, rfl⟩
                      refine W_at eH eL ?_
                      clear eH eL
                      obtain ⟨y, hy0⟩ : ∃ y : Int32, y = 0 := ⟨_, rfl⟩
                      replace hl : lv_has ls 12 [(10, .int y), (9, .int 1), (8, .int v), (7, .int (nI h9)), (6, .int (nI h)), (0, .ref x), (1, .int a), (2, .int (nI i')), (3, .int b), (4, .int (nI j')), (5, .int (nI n'))] := by rw [hy0]; exact lv_sub hl [0, 1, 2, 3, 4, 5, 6, 7, 8, 9, 10] rfl
                      rw [← hy0] at hy
                      clear hy0
                      obtain ⟨g2, hg⟩ : ∃ g2, t - k < g2 := ⟨_, Nat.lt_succ_self _⟩
                      induction g2 generalizing k y ls ws7 H7 lc7 with
                      | zero => exact absurd hg (Nat.not_lt_zero _)
                      | succ g2 ih =>
                        refine lv_iload hx hb dX6_move_114 (lv_at hl 0 rfl) ?_
                        refine lv_iload hx hb dX6_move_116 (lv_at hl 2 rfl) ?_
                        refine lv_icmp_ge (tgt := 175) hx hb dX6_move_118 (by decide) (fun c_118 => ?_) (fun c_118 => ?_)
                        · have hkt : k = t := ge_nI (n := t) hy hk7 (by omega) (by rw [← hv]; exact c_118)
                          have q5 : hp ws7 ha (aJ G 60000 (va_cpy hfa2 hfa2 (h + 1 + i') (h9 + 1 + j') t)) := by
                            rw [hkt] at q2
                            simp only [Nat.sub_self, Nat.add_zero] at q2
                            exact q2
                          have hRq : RpM G x ha at_ li (s_u S, va_up (s_o S) h9 (some (o_sete o9 (va_cpy (o_e o) (o_e o9) i' j' t))), s_s S, s_l S, upd (upd (s_c S) 3 0) 4 v7) ws7 := ⟨_, _, q1, q5, q3, q4, m5a2, HpM.cpyO hI m6a2 ho ho9 hk k6 hk9 k9 (by omega) (by omega)⟩
                          refine lv_aload_n hx hb dX6_move_175 rfl (lv_at hl 5 rfl) ?_
                          refine lv_iload hx hb dX6_move_176 (lv_at hl 2 rfl) ?_
                          refine r_put (ref := "SpanMoverModel") S9 w7 q1 rfl (by decide +kernel) tyX6_ok nmX6 7 (by decide) (by decide +kernel) (Or.inl rfl) rfl rfl rfl (Nat.le_of_ble_eq_true rfl) dX6_move_178 (fun wsa3 Ha3 lca3 ua3 wa3 => ?_)
                          have hRa3 := RpM.sc (f := upd (upd (upd (s_c S) 3 0) 4 v7) 3 v) w7.2.1 hRq q1 ua3 rfl
                          replace hRa3 : RpM G x ha at_ li (s_u S, va_up (s_o S) h9 (some (o_sete o9 (va_cpy (o_e o) (o_e o9) i' j' t))), s_s S, s_l S, upd (upd (upd (s_c S) 3 0) 4 v7) 3 v) wsa3 := hRa3
                          obtain ⟨hfa3, afa3, m1a3, m2a3, m3a3, m4a3, m5a3, m6a3⟩ := id hRa3
                          have xa3 : hp wsa3 x (.inr (4, [.ref ha, .int (nI (s_u S)), .ref at_, .ref li, .int (s_c S 0), .int (s_c S 2), .int v7, .int v, .int (s_c S 5), .int (s_c S 6)])) := m1a3
                          refine lv_aload_n hx hb dX6_move_181 rfl (lv_at hl 5 rfl) ?_
                          refine lv_iload hx hb dX6_move_182 (lv_at hl 2 rfl) ?_
                          refine lv_iload hx hb dX6_move_184 (lv_at hl 10 rfl) ?_
                          refine lv_icmp_ge (tgt := 193) hx hb dX6_move_186 (by decide) (fun c_186 => ?_) (fun c_186 => ?_)
                          · have hfull : t = n' := ge_nI hv ht (by omega) c_186
                            refine lv_iconst (v := 0) hx hb dX6_move_193 (by decide) ?_
                            refine r_put (ref := "SpanMoverModel") S9 wa3 xa3 rfl (by decide +kernel) tyX6_ok nmX6 6 (by decide) (by decide +kernel) (Or.inl rfl) rfl rfl rfl (Nat.le_of_ble_eq_true rfl) dX6_move_194 (fun wsa4 Ha4 lca4 ua4 wa4 => ?_)
                            have hRa4 := RpM.sc (f := upd (upd (upd (upd (s_c S) 3 0) 4 v7) 3 v) 4 0) wa3.2.1 hRa3 xa3 ua4 rfl
                            replace hRa4 : RpM G x ha at_ li (s_u S, va_up (s_o S) h9 (some (o_sete o9 (va_cpy (o_e o) (o_e o9) i' j' t))), s_s S, s_l S, upd (upd (upd (upd (s_c S) 3 0) 4 v7) 3 v) 4 0) wsa4 := hRa4
                            obtain ⟨hfa4, afa4, m1a4, m2a4, m3a4, m4a4, m5a4, m6a4⟩ := id hRa4
                            have xa4 : hp wsa4 x (.inr (4, [.ref ha, .int (nI (s_u S)), .ref at_, .ref li, .int (s_c S 0), .int (s_c S 2), .int (0 : Int32), .int v, .int (s_c S 5), .int (s_c S 6)])) := m1a4
                            refine lv_aload_n hx hb dX6_move_197 rfl (lv_at hl 5 rfl) ?_
                            refine r_get (ref := "SpanMoverModel") S9 wa4 xa4 rfl (by decide +kernel) 6 (by decide) (by decide +kernel) (Or.inl rfl) rfl dX6_move_198 ?_
                            refine lv_if_ne (tgt := 217) hx hb dX6_move_201 (by decide) (fun c_201 => absurd c_201 (by decide)) (fun c_201 => ?_)
                            refine lv_aload_n hx hb dX6_move_204 rfl (lv_at hl 5 rfl) ?_
                            refine lv_dup hx hb dX6_move_205 rfl ?_
                            refine r_get (ref := "SpanMoverModel") S9 wa4 xa4 rfl (by decide +kernel) 8 (by decide) (by decide +kernel) (Or.inl rfl) rfl dX6_move_206 ?_
                            refine lv_iconst (v := 1) hx hb dX6_move_209 (by decide) ?_
                            refine lv_iadd hx hb dX6_move_210 ?_
                            refine lv_topi (fun v98 ev98 => ?_)
                            refine r_put (ref := "SpanMoverModel") S9 wa4 xa4 rfl (by decide +kernel) tyX6_ok nmX6 8 (by decide) (by decide +kernel) (Or.inl rfl) rfl rfl rfl (Nat.le_of_ble_eq_true rfl) dX6_move_211 (fun wsa5 Ha5 lca5 ua5 wa5 => ?_)
                            have hRa5 := RpM.sc (f := upd (upd (upd (upd (upd (s_c S) 3 0) 4 v7) 3 v) 4 0) 5 v98) wa4.2.1 hRa4 xa4 ua5 rfl
                            replace hRa5 : RpM G x ha at_ li (s_u S, va_up (s_o S) h9 (some (o_sete o9 (va_cpy (o_e o) (o_e o9) i' j' t))), s_s S, s_l S, upd (upd (upd (upd (upd (s_c S) 3 0) 4 v7) 3 v) 4 0) 5 v98) wsa5 := hRa5
                            obtain ⟨hfa5, afa5, m1a5, m2a5, m3a5, m4a5, m5a5, m6a5⟩ := id hRa5
                            have xa5 : hp wsa5 x (.inr (4, [.ref ha, .int (nI (s_u S)), .ref at_, .ref li, .int (s_c S 0), .int (s_c S 2), .int (0 : Int32), .int v, .int v98, .int (s_c S 6)])) := m1a5
                            refine lv_goto (tgt := 227) hx hb dX6_move_214 (by decide) ?_
                            refine lv_aload_n hx hb dX6_move_227 rfl (lv_at hl 5 rfl) ?_
                            refine r_get (ref := "SpanMoverModel") S9 wa5 xa5 rfl (by decide +kernel) 6 (by decide) (by decide +kernel) (Or.inl rfl) rfl dX6_move_228 ?_
                            exact ew_i S9 hr hlk wa5 (by have hM2 : mvR S h9 o o9 (nI i') (nI j') (nI n') = (0, v, va_up (s_o S) h9 (some (o_sete o9 (va_cpy (o_e o) (o_e o9) i' j' t)))) := (by unfold mvR; rw [if_neg (fun q => q s1), if_neg (fun q => q s2), if_neg (by omega), y1, y2, y3, hT, if_pos hfull, hv]); rw [show sp_move S a (nI i') b (nI j') (nI n') = (0, (s_u S, va_up (s_o S) h9 (some (o_sete o9 (va_cpy (o_e o) (o_e o9) i' j' t))), s_s S, s_l S, upd (upd (upd (upd (upd (s_c S) 3 0) 4 v7) 3 v) 4 0) 5 v98)) from by simp only [sp_move, hMv, hM2, mvc, if_pos, ev98, upd_43]]; exact ⟨rfl, hRa5⟩) dX6_move_231 (by decide) (by decide)
                          · have hfull : ¬ t = n' := fun q => c_186 (by rw [hv, q]; exact Int32.le_refl _)
                            refine lv_iconst (v := 5) hx hb dX6_move_189 (by decide) ?_
                            refine lv_goto (tgt := 194) hx hb dX6_move_190 (by decide) ?_
                            refine r_put (ref := "SpanMoverModel") S9 wa3 xa3 rfl (by decide +kernel) tyX6_ok nmX6 6 (by decide) (by decide +kernel) (Or.inl rfl) rfl rfl rfl (Nat.le_of_ble_eq_true rfl) dX6_move_194 (fun wsa4 Ha4 lca4 ua4 wa4 => ?_)
                            have hRa4 := RpM.sc (f := upd (upd (upd (upd (s_c S) 3 0) 4 v7) 3 v) 4 5) wa3.2.1 hRa3 xa3 ua4 rfl
                            replace hRa4 : RpM G x ha at_ li (s_u S, va_up (s_o S) h9 (some (o_sete o9 (va_cpy (o_e o) (o_e o9) i' j' t))), s_s S, s_l S, upd (upd (upd (upd (s_c S) 3 0) 4 v7) 3 v) 4 5) wsa4 := hRa4
                            obtain ⟨hfa4, afa4, m1a4, m2a4, m3a4, m4a4, m5a4, m6a4⟩ := id hRa4
                            have xa4 : hp wsa4 x (.inr (4, [.ref ha, .int (nI (s_u S)), .ref at_, .ref li, .int (s_c S 0), .int (s_c S 2), .int (5 : Int32), .int v, .int (s_c S 5), .int (s_c S 6)])) := m1a4
                            refine lv_aload_n hx hb dX6_move_197 rfl (lv_at hl 5 rfl) ?_
                            refine r_get (ref := "SpanMoverModel") S9 wa4 xa4 rfl (by decide +kernel) 6 (by decide) (by decide +kernel) (Or.inl rfl) rfl dX6_move_198 ?_
                            refine lv_if_ne (tgt := 217) hx hb dX6_move_201 (by decide) (fun c_201 => ?_) (fun c_201 => absurd c_201 (by decide))
                            refine lv_aload_n hx hb dX6_move_217 rfl (lv_at hl 5 rfl) ?_
                            refine lv_dup hx hb dX6_move_218 rfl ?_
                            refine r_get (ref := "SpanMoverModel") S9 wa4 xa4 rfl (by decide +kernel) 9 (by decide) (by decide +kernel) (Or.inl rfl) rfl dX6_move_219 ?_
                            refine lv_iconst (v := 1) hx hb dX6_move_222 (by decide) ?_
                            refine lv_iadd hx hb dX6_move_223 ?_
                            refine lv_topi (fun v99 ev99 => ?_)
                            refine r_put (ref := "SpanMoverModel") S9 wa4 xa4 rfl (by decide +kernel) tyX6_ok nmX6 9 (by decide) (by decide +kernel) (Or.inl rfl) rfl rfl rfl (Nat.le_of_ble_eq_true rfl) dX6_move_224 (fun wsa5 Ha5 lca5 ua5 wa5 => ?_)
                            have hRa5 := RpM.sc (f := upd (upd (upd (upd (upd (s_c S) 3 0) 4 v7) 3 v) 4 5) 6 v99) wa4.2.1 hRa4 xa4 ua5 rfl
                            replace hRa5 : RpM G x ha at_ li (s_u S, va_up (s_o S) h9 (some (o_sete o9 (va_cpy (o_e o) (o_e o9) i' j' t))), s_s S, s_l S, upd (upd (upd (upd (upd (s_c S) 3 0) 4 v7) 3 v) 4 5) 6 v99) wsa5 := hRa5
                            obtain ⟨hfa5, afa5, m1a5, m2a5, m3a5, m4a5, m5a5, m6a5⟩ := id hRa5
                            have xa5 : hp wsa5 x (.inr (4, [.ref ha, .int (nI (s_u S)), .ref at_, .ref li, .int (s_c S 0), .int (s_c S 2), .int (5 : Int32), .int v, .int (s_c S 5), .int v99])) := m1a5
                            refine lv_aload_n hx hb dX6_move_227 rfl (lv_at hl 5 rfl) ?_
                            refine r_get (ref := "SpanMoverModel") S9 wa5 xa5 rfl (by decide +kernel) 6 (by decide) (by decide +kernel) (Or.inl rfl) rfl dX6_move_228 ?_
                            exact ew_i S9 hr hlk wa5 (by have hM2 : mvR S h9 o o9 (nI i') (nI j') (nI n') = (5, v, va_up (s_o S) h9 (some (o_sete o9 (va_cpy (o_e o) (o_e o9) i' j' t)))) := (by unfold mvR; rw [if_neg (fun q => q s1), if_neg (fun q => q s2), if_neg (by omega), y1, y2, y3, hT, if_neg hfull, hv]); rw [show sp_move S a (nI i') b (nI j') (nI n') = (5, (s_u S, va_up (s_o S) h9 (some (o_sete o9 (va_cpy (o_e o) (o_e o9) i' j' t))), s_s S, s_l S, upd (upd (upd (upd (upd (s_c S) 3 0) 4 v7) 3 v) 4 5) 6 v99)) from by simp only [sp_move, hMv, hM2, mvc, if_neg (show ¬ (5 : Int32) = 0 by decide), ev99, upd_43]]; exact ⟨rfl, hRa5⟩) dX6_move_231 (by decide) (by decide)
                        · refine lv_iload hx hb dX6_move_121 (lv_at hl 1 rfl) ?_
                          refine lv_if_eq (tgt := 136) hx hb dX6_move_123 (by decide) (fun c_123 => absurd c_123 (by decide)) (fun c_123 => ?_)
                          refine lv_iload hx hb dX6_move_126 (lv_at hl 2 rfl) ?_
                          refine lv_iconst (v := 1) hx hb dX6_move_128 (by decide) ?_
                          refine lv_isub hx hb dX6_move_129 ?_
                          refine lv_topi (fun v100 ev100 => ?_)
                          refine lv_iload hx hb dX6_move_130 (lv_at hl 0 rfl) ?_
                          refine lv_isub hx hb dX6_move_132 ?_
                          refine lv_topi (fun v101 ev101 => ?_)
                          refine lv_goto (tgt := 138) hx hb dX6_move_133 (by decide) ?_
                          have hk8 := nge_nI (n := t) hy hk7 (by omega) (by rw [← hv]; exact c_118)
                          have he1 : v101 = nI (t - 1 - k) := by rw [ev101, ev100, hv, hy]; rw [show nI t - 1 = nI (t - 1) from pk_sub (b := 1) (by omega)]; exact pk_sub (by omega)
                          refine lv_istore (lv' := [(11, .int v101), (10, .int y), (9, .int 1), (8, .int v), (7, .int (nI h9)), (6, .int (nI h)), (0, .ref x), (1, .int a), (2, .int (nI i')), (3, .int b), (4, .int (nI j')), (5, .int (nI n'))]) hx hb dX6_move_138 hl (by decide) rfl (fun ls hl => ?_)
                          refine lv_aload_n hx hb dX6_move_140 rfl (lv_at hl 6 rfl) ?_
                          refine r_get (ref := "SpanMoverModel") S9 w7 q1 rfl (by decide +kernel) 0 (by decide) (by decide +kernel) (Or.inl rfl) rfl dX6_move_141 ?_
                          refine lv_iload hx hb dX6_move_144 (lv_at hl 4 rfl) ?_
                          refine lv_iconst (v := 1) hx hb dX6_move_146 (by decide) ?_
                          refine lv_iadd hx hb dX6_move_147 ?_
                          refine lv_topi (fun v102 ev102 => ?_)
                          refine lv_iload hx hb dX6_move_148 (lv_at hl 10 rfl) ?_
                          refine lv_iadd hx hb dX6_move_150 ?_
                          refine lv_topi (fun v103 ev103 => ?_)
                          refine lv_iload hx hb dX6_move_151 (lv_at hl 0 rfl) ?_
                          refine lv_iadd hx hb dX6_move_153 ?_
                          refine lv_topi (fun v104 ev104 => ?_)
                          refine lv_aload_n hx hb dX6_move_154 rfl (lv_at hl 6 rfl) ?_
                          refine r_get (ref := "SpanMoverModel") S9 w7 q1 rfl (by decide +kernel) 0 (by decide) (by decide +kernel) (Or.inl rfl) rfl dX6_move_155 ?_
                          refine lv_iload hx hb dX6_move_158 (lv_at hl 5 rfl) ?_
                          refine lv_iconst (v := 1) hx hb dX6_move_160 (by decide) ?_
                          refine lv_iadd hx hb dX6_move_161 ?_
                          refine lv_topi (fun v105 ev105 => ?_)
                          refine lv_iload_n hx hb dX6_move_162 rfl (lv_at hl 8 rfl) ?_
                          refine lv_iadd hx hb dX6_move_163 ?_
                          refine lv_topi (fun v106 ev106 => ?_)
                          refine lv_iload hx hb dX6_move_164 (lv_at hl 0 rfl) ?_
                          refine lv_iadd hx hb dX6_move_166 ?_
                          refine lv_topi (fun v107 ev107 => ?_)
                          refine r_lald S9 w7 q2 (by rw [show v107 = nI (h + 1 + i' + (t - 1 - k)) from by rw [ev107, ev106, ev105, he1]; exact idx3]; exact vp_in_nI (by omega) (by decide)) dX6_move_167 ?_
                          refine lv_topl (fun v108 ev108 => ?_)
                          have xB : v104 = nI (h9 + 1 + j' + (t - 1 - k)) := by rw [ev104, ev103, ev102, he1]; exact idx3
                          have xA : v107 = nI (h + 1 + i' + (t - 1 - k)) := by rw [ev107, ev106, ev105, he1]; exact idx3
                          refine r_last S9 w7 q2 (by rw [xB]; exact vp_in_nI (by omega) (by decide)) dX6_move_168 (fun ws8 H8 lc8 u8 w8 => ?_)
                          have nn8 := mne w7.2.1 q1 q2 q3 q4
                          have hval : v108 = hfa2 (h + 1 + i' + (t - 1 - k)) := by rw [ev108, cl_nI xA (by omega)]; exact cpy_bw (by omega)
                          have hq2 : hp ws8 ha (aJ G 60000 (va_cpy hfa2 hfa2 (h + 1 + i' + (t - (k + 1))) (h9 + 1 + j' + (t - (k + 1))) (k + 1))) := by
                            have h8 := u8.1
                            rw [cl_nI xB (by omega), hval, cpy_bw1 hk8] at h8
                            exact h8
                          obtain ⟨v109, ev109⟩ : ∃ z : Int32, z = y + 1 := ⟨_, rfl⟩
                          refine lv_iinc (v := v109) (lv' := [(10, .int v109), (11, .int v101), (9, .int 1), (8, .int v), (7, .int (nI h9)), (6, .int (nI h)), (0, .ref x), (1, .int a), (2, .int (nI i')), (3, .int b), (4, .int (nI j')), (5, .int (nI n'))]) hx hb dX6_move_169 hl (k := 1) rfl (by rw [ev109]; rfl) (by decide) rfl (fun ls hl => ?_)
                          refine lv_goto (tgt := 114) hx hb dX6_move_172 (by decide) ?_
                          exact ih (ls := ls) (k := k + 1) (y := v109) (ws7 := ws8) (H7 := H8) (lc7 := lc8) (hk7 := by omega) (hy := by rw [ev109, hy]; exact nI_1 k) (q1 := u8.keep nn8.1.1 q1) (q2 := hq2) (q3 := u8.keep nn8.2.1.symm q3) (q4 := u8.keep nn8.2.2.1.symm q4) (w7 := w8) (hl := lv_sub hl [0, 2, 3, 4, 5, 6, 7, 8, 9, 10, 11] rfl) (hg := by omega)
                | true =>
                  rw [hfe] at e10
                  replace e10 : v10 = 1 := e10
                  subst e10
                  refine lv_if_eq (tgt := 91) hx hb dX6_move_82 (by decide) (fun c_82 => absurd c_82 (by decide)) (fun c_82 => ?_)
                  obtain ⟨v110, ev110⟩ : ∃ z : Int32, z = v + 1 := ⟨_, rfl⟩
                  refine lv_iinc (v := v110) (lv' := [(8, .int v110), (7, .int (nI h9)), (6, .int (nI h)), (0, .ref x), (1, .int a), (2, .int (nI i')), (3, .int b), (4, .int (nI j')), (5, .int (nI n'))]) hx hb dX6_move_85 hl (k := 0) rfl (by rw [ev110]; rfl) (by decide) rfl (fun ls hl => ?_)
                  refine lv_goto (tgt := 46) hx hb dX6_move_88 (by decide) ?_
                  have ht4 := nge_nI hv ht (by omega) c_50
                  have hfit : fitE S (o_k o9) (o_e o (i' + t)) = true := by rw [he]; exact hfe
                  exact ih (ls := ls) (t := t + 1) (v := v110) (ht := by omega) (hv := by rw [ev110, hv]; exact nI_1 t) (hF := by rw [hF, fitN_step ht4 hfit]) (hl := lv_sub hl [0, 1, 2, 3, 4, 5, 6, 7, 8] rfl) (hg := by omega)
