theorem pI_ne {p4 : Nat} (h : p4 < 400) : ¬ pI (some p4) = -1 := by
  show ¬ nI p4 = -1
  intro q
  have e1 : (nI p4).toInt = p4 := nI_toInt (by omega)
  rw [q] at e1
  have e2 : (-1 : Int32).toInt = -1 := rfl
  omega
set_option maxHeartbeats 4000000 in
set_option maxRecDepth 100000 in
theorem c_innerNumber_N (l : Launch) {G : Gt} {ws : va_W} (sz : Nat) {x sh li : Nat} {ad ar : Nat → Nat} {S : St} (hR : RpX G x sh li ad ar S ws) (k : Int32) : Met l yX5_innerNumber wsX5_innerNumber ({ frames := 1, cells := 0, slots := 0, locals := 21 } : Room) (Pw G [.ref x, .null, .int k] ws sz) (va_Ql (fun (r : Int64) (u : va_W) => r = 0 ∧ RpX G x sh li ad ar (s_sc S (upd (s_c S) 2 5)) u) (Bw G ws sz) (va_A ws sz)) 0 0 (va_A ws sz) := by
  refine Met_pw (cc := cX5_innerNumber) (maxL := 4) (ret := (some .long)) (by decide) rfl (Nat.le_of_ble_eq_true rfl) ?_
  intro p e s m below meth c ls hsz S9 hr hlk hnm w hl
  subst hsz
  replace S9 : CallFix p m c cX5_innerNumber 4 s _ wsX5_innerNumber RX5 := S9
  have hx := S9.1
  have hb := S9.2.1
  have hown := S9.2.2.2.1
  have hts := S9.2.2.2.2
  replace hl : lv_has ls 4 [(0, .ref x), (1, .null), (2, .int k)] := hl
  refine lv_aload_nN hx hb dX5_innerNumber_0 rfl (lv_at hl 1 rfl) ?_
  refine lv_instN hx hb dX5_innerNumber_1 ?_
  refine lv_if_eq (tgt := 15) hx hb dX5_innerNumber_4 (by decide) (fun c_4 => ?_) (fun c_4 => absurd c_4 (by decide))
  refine lv_aload_n hx hb dX5_innerNumber_15 rfl (lv_at hl 0 rfl) ?_
  refine lv_iconst (v := 5) hx hb dX5_innerNumber_16 (by decide) ?_
  refine r_put (ref := "SpanMover") S9 w hR.1 rfl (by decide +kernel) tyX5_ok nmX5 4 (by decide) (by decide +kernel) (Or.inl rfl) rfl rfl rfl (Nat.le_of_ble_eq_true rfl) dX5_innerNumber_17 (fun ws8 H8 lc8 u8 w8 => ?_)
  have hR8 := RpX.sc w.2.1 hR u8 (oX_set sh li (s_c S) 2 (by decide) 5)
  replace hR8 : RpX G x sh li ad ar (s_u S, s_o S, s_s S, s_l S, upd (s_c S) 2 5) ws8 := hR8
  have hx8 : hp ws8 x (.inr (3, [.ref sh, .ref li, .int (s_c S 0), .int (s_c S 1), .int (5 : Int32), .int (s_c S 3), .int (s_c S 4), .int (s_c S 5), .int (s_c S 6)])) := hR8.1
  refine lv_lconst (v := 0) hx hb dX5_innerNumber_20 (by decide) ?_
  exact ew_l S9 hr hlk w8 (⟨rfl, hR8⟩) dX5_innerNumber_21 (by decide) (by decide)

set_option maxHeartbeats 4000000 in
set_option maxRecDepth 100000 in
theorem c_innerNumber_0 (l : Launch) {G : Gt} {ws : va_W} (sz : Nat) {x sh li : Nat} {ad ar : Nat → Nat} {S : St} (hR : RpX G x sh li ad ar S ws) (hI : Inv S) {h : Nat} {o : Ob} (ho : s_o S h = some o) (hk : o_k o ≤ 3) (k : Int32) : Met l yX5_innerNumber wsX5_innerNumber ({ frames := 1, cells := 0, slots := 0, locals := 21 } : Room) (Pw G [.ref x, .ref (ad h), .int k] ws sz) (va_Ql (fun (r : Int64) (u : va_W) => if inE (o_n o) k then (r = o_f o k.toNatClampNeg ∧ RpX G x sh li ad ar S u) else (r = 0 ∧ RpX G x sh li ad ar (s_sc S (upd (s_c S) 2 6)) u)) (Bw G ws sz) (va_A ws sz)) 0 0 (va_A ws sz) := by
  refine Met_pw (cc := cX5_innerNumber) (maxL := 4) (ret := (some .long)) (by decide) rfl (Nat.le_of_ble_eq_true rfl) ?_
  intro p e s m below meth c ls hsz S9 hr hlk hnm w hl
  subst hsz
  replace S9 : CallFix p m c cX5_innerNumber 4 s _ wsX5_innerNumber RX5 := S9
  have hx := S9.1
  have hb := S9.2.1
  have hown := S9.2.2.2.1
  have hts := S9.2.2.2.2
  replace hl : lv_has ls 4 [(0, .ref x), (1, .ref (ad h)), (2, .int k)] := hl
  obtain ⟨dk, kd, q1, q2, q3, q4⟩ := hR.2.2.2.1 h o ho
  rw [o_num hk] at q1
  refine lv_aload_n hx hb dX5_innerNumber_0 rfl (lv_at hl 1 rfl) ?_
  refine r_inst S9 w q1 (by decide) 0 (by decide) (by decide +kernel) (v := 1) rfl dX5_innerNumber_1 ?_
  refine lv_if_eq (tgt := 15) hx hb dX5_innerNumber_4 (by decide) (fun c_4 => absurd c_4 (by decide)) (fun c_4 => ?_)
  refine lv_aload_n hx hb dX5_innerNumber_7 rfl (lv_at hl 1 rfl) ?_
  refine r_cast S9 w q1 (by decide) 0 (by decide) rfl (by decide +kernel) dX5_innerNumber_8 ?_
  refine lv_astore_n (lv' := [(3, .ref (ad h)), (0, .ref x), (1, .ref (ad h)), (2, .int k)]) hx hb dX5_innerNumber_11 rfl hl (by decide) rfl (fun ls hl => ?_)
  refine lv_goto (tgt := 22) hx hb dX5_innerNumber_12 (by decide) ?_
  refine lv_aload_n hx hb dX5_innerNumber_22 rfl (lv_at hl 0 rfl) ?_
  refine lv_iload_n hx hb dX5_innerNumber_23 rfl (lv_at hl 3 rfl) ?_
  refine k_ui S9 w (c_hasElement_0 l _ q1 k) q1 rfl (va_cwU 1 hts gX5_innerNumber_X3_hasElement_u143X1 rfl rfl rfl rfl (by decide +kernel) ⟨Nat.le_of_ble_eq_true rfl, Nat.le_of_ble_eq_true rfl⟩) rfl hl.1 rfl (Nat.le_of_ble_eq_true rfl) dX5_innerNumber_24 ⟨Nat.le_of_ble_eq_true rfl, Nat.le_of_ble_eq_true rfl⟩ (fun v7 e7 => ?_)
  refine lv_if_ne (tgt := 38) hx hb dX5_innerNumber_27 (by decide) (fun c_27 => ?_) (fun c_27 => ?_)
  · refine lv_aload_n hx hb dX5_innerNumber_38 rfl (lv_at hl 0 rfl) ?_
    refine lv_iload_n hx hb dX5_innerNumber_39 rfl (lv_at hl 3 rfl) ?_
    refine k_vl S9 w (c_numberAt l _ q1 (q3 hk) k (inE_in (by rw [e7] at c_27; by_cases hE : inE (o_n o) k; exact hE; simp [hE] at c_27) (by have := (hI.ob ho).2; omega))) q1 rfl (cwV 1 hts gX5_innerNumber_X1_numberAt rfl rfl rfl (by decide +kernel) ⟨Nat.le_of_ble_eq_true rfl, Nat.le_of_ble_eq_true rfl⟩) rfl hl.1 rfl (Nat.le_of_ble_eq_true rfl) dX5_innerNumber_40 ⟨Nat.le_of_ble_eq_true rfl, Nat.le_of_ble_eq_true rfl⟩ (fun v10 e10 => ?_)
    exact ew_l S9 hr hlk w (by rw [e7] at c_27; have hE : inE (o_n o) k := (by by_cases hE : inE (o_n o) k; exact hE; simp [hE] at c_27); exact Eq.mpr (if_pos hE) ⟨e10, hR⟩) dX5_innerNumber_43 (by decide) (by decide)
  · refine lv_aload_n hx hb dX5_innerNumber_30 rfl (lv_at hl 1 rfl) ?_
    refine lv_bipush (v := 6) hx hb dX5_innerNumber_31 (by decide) ?_
    refine r_put (ref := "SpanMover") S9 w hR.1 rfl (by decide +kernel) tyX5_ok nmX5 4 (by decide) (by decide +kernel) (Or.inl rfl) rfl rfl rfl (Nat.le_of_ble_eq_true rfl) dX5_innerNumber_33 (fun ws8 H8 lc8 u8 w8 => ?_)
    have hR8 := RpX.sc w.2.1 hR u8 (oX_set sh li (s_c S) 2 (by decide) 6)
    replace hR8 : RpX G x sh li ad ar (s_u S, s_o S, s_s S, s_l S, upd (s_c S) 2 6) ws8 := hR8
    have hx8 : hp ws8 x (.inr (3, [.ref sh, .ref li, .int (s_c S 0), .int (s_c S 1), .int (6 : Int32), .int (s_c S 3), .int (s_c S 4), .int (s_c S 5), .int (s_c S 6)])) := hR8.1
    refine lv_lconst (v := 0) hx hb dX5_innerNumber_36 (by decide) ?_
    exact ew_l S9 hr hlk w8 (by rw [e7] at c_27; have hE : ¬ inE (o_n o) k := (fun hE => by simp [hE] at c_27); exact Eq.mpr (if_neg hE) ⟨rfl, hR8⟩) dX5_innerNumber_37 (by decide) (by decide)

set_option maxHeartbeats 4000000 in
set_option maxRecDepth 100000 in
theorem c_deep (l : Launch) {G : Gt} {ws : va_W} (sz : Nat) {x sh li : Nat} {ad ar : Nat → Nat} {S : St} (hR : RpX G x sh li ad ar S ws) (hI : Inv S) (pl i k : Int32) : Met l yX5_deep wsX5_deep ({ frames := 2, cells := 0, slots := 0, locals := 45 } : Room) (Pw G [.ref x, .int pl, .int i, .int k] ws sz) (va_Ql (fun (r : Int64) (u : va_W) => r = (sp_deep S pl i k).1 ∧ ∃ ad2 ar2, RpX G x sh li ad2 ar2 (sp_deep S pl i k).2 u) (Bw G ws sz) (va_A ws sz)) 0 0 (va_A ws sz) := by
  refine Met_pw (cc := cX5_deep) (maxL := 6) (ret := (some .long)) (by decide) rfl (Nat.le_of_ble_eq_true rfl) ?_
  intro p e s m below meth c ls hsz S9 hr hlk hnm w hl
  subst hsz
  replace S9 : CallFix p m c cX5_deep 6 s _ wsX5_deep RX5 := S9
  have hx := S9.1
  have hb := S9.2.1
  have hown := S9.2.2.2.1
  have hts := S9.2.2.2.2
  replace hl : lv_has ls 6 [(0, .ref x), (1, .int pl), (2, .int i), (3, .int k)] := hl
  refine lv_aload_n hx hb dX5_deep_0 rfl (lv_at hl 0 rfl) ?_
  refine lv_iload_n hx hb dX5_deep_1 rfl (lv_at hl 1 rfl) ?_
  refine kx_itemAt S9 w hR hI gX5_deep_X5_itemAt hl.1 (Nat.le_of_ble_eq_true rfl) dX5_deep_2 ⟨Nat.le_of_ble_eq_true rfl, Nat.le_of_ble_eq_true rfl⟩ ⟨Nat.le_of_ble_eq_true rfl, Nat.le_of_ble_eq_true rfl⟩ (fun i_2 => ?_) (fun h o i_2 ho => ?_)
  · refine lv_astoreN (lv' := [(4, .null), (0, .ref x), (1, .int pl), (2, .int i), (3, .int k)]) hx hb dX5_deep_5 hl (by decide) rfl (fun ls hl => ?_)
    refine lv_aload_n hx hb dX5_deep_7 rfl (lv_at hl 1 rfl) ?_
    refine lv_aloadN hx hb dX5_deep_8 (lv_at hl 0 rfl) ?_
    refine lv_iload_n hx hb dX5_deep_10 rfl (lv_at hl 3 rfl) ?_
    refine lv_iconst (v := 4) hx hb dX5_deep_11 (by decide) ?_
    refine lv_iconst (v := 4) hx hb dX5_deep_12 (by decide) ?_
    refine k_si S9 w (c_refusalAt_N l _ i 4 4) (va_cwS 4 hts gX5_deep_X5_refusalAt rfl rfl rfl (by decide +kernel) ⟨Nat.le_of_ble_eq_true rfl, Nat.le_of_ble_eq_true rfl⟩) rfl hl.1 rfl (Nat.le_of_ble_eq_true rfl) dX5_deep_13 ⟨Nat.le_of_ble_eq_true rfl, Nat.le_of_ble_eq_true rfl⟩ (fun v7 e7 => ?_)
    refine r_put (ref := "SpanMover") S9 w hR.1 rfl (by decide +kernel) tyX5_ok nmX5 4 (by decide) (by decide +kernel) (Or.inl rfl) rfl rfl rfl (Nat.le_of_ble_eq_true rfl) dX5_deep_16 (fun ws8 H8 lc8 u8 w8 => ?_)
    have hR8 := RpX.sc w.2.1 hR u8 (oX_set sh li (s_c S) 2 (by decide) v7)
    replace hR8 : RpX G x sh li ad ar (s_u S, s_o S, s_s S, s_l S, upd (s_c S) 2 v7) ws8 := hR8
    have hx8 : hp ws8 x (.inr (3, [.ref sh, .ref li, .int (s_c S 0), .int (s_c S 1), .int v7, .int (s_c S 3), .int (s_c S 4), .int (s_c S 5), .int (s_c S 6)])) := hR8.1
    refine lv_aload_n hx hb dX5_deep_19 rfl (lv_at hl 1 rfl) ?_
    refine r_get (ref := "SpanMover") S9 w8 hx8 rfl (by decide +kernel) 4 (by decide) (by decide +kernel) (Or.inl rfl) rfl dX5_deep_20 ?_
    refine lv_if_ne (tgt := 53) hx hb dX5_deep_23 (by decide) (fun c_23 => ?_) (fun c_23 => ?_)
    · refine lv_lconst (v := 0) hx hb dX5_deep_53 (by decide) ?_
      exact ew_l S9 hr hlk w8 (by rw [show sp_deep S pl i k = (0, s_sc S (upd (s_c S) 2 v7)) from by rw [e7]; simp [sp_deep, obj_none i_2]]; exact ⟨rfl, ad, ar, hR8⟩) dX5_deep_54 (by decide) (by decide)
    · exact absurd (e7.symm.trans c_23) (by decide)
  · obtain ⟨dk, kd, q1, q2, q3, q4⟩ := hR.2.2.2.1 h o ho
    rcases (show o_k o ≤ 3 ∨ (4 ≤ o_k o ∧ o_k o ≤ 6) ∨ 7 ≤ o_k o by omega) with hk | ⟨hk, hm⟩ | hk
    · rw [o_num hk] at q1
      refine lv_astore (lv' := [(4, .ref (ad h)), (0, .ref x), (1, .int pl), (2, .int i), (3, .int k)]) hx hb dX5_deep_5 hl (by decide) rfl (fun ls hl => ?_)
      refine lv_aload_n hx hb dX5_deep_7 rfl (lv_at hl 1 rfl) ?_
      refine lv_aload hx hb dX5_deep_8 (lv_at hl 0 rfl) ?_
      refine lv_iload_n hx hb dX5_deep_10 rfl (lv_at hl 3 rfl) ?_
      refine lv_iconst (v := 4) hx hb dX5_deep_11 (by decide) ?_
      refine lv_iconst (v := 4) hx hb dX5_deep_12 (by decide) ?_
      refine k_si S9 w (c_refusalAt_0 l _ q1 i 4 4) (va_cwS 4 hts gX5_deep_X5_refusalAt rfl rfl rfl (by decide +kernel) ⟨Nat.le_of_ble_eq_true rfl, Nat.le_of_ble_eq_true rfl⟩) rfl hl.1 rfl (Nat.le_of_ble_eq_true rfl) dX5_deep_13 ⟨Nat.le_of_ble_eq_true rfl, Nat.le_of_ble_eq_true rfl⟩ (fun v7 e7 => ?_)
      rw [← ref1_row (o := o) (i := i) (lo := 4) (hi := 4) (by omega)] at e7
      refine r_put (ref := "SpanMover") S9 w hR.1 rfl (by decide +kernel) tyX5_ok nmX5 4 (by decide) (by decide +kernel) (Or.inl rfl) rfl rfl rfl (Nat.le_of_ble_eq_true rfl) dX5_deep_16 (fun ws8 H8 lc8 u8 w8 => ?_)
      have hR8 := RpX.sc w.2.1 hR u8 (oX_set sh li (s_c S) 2 (by decide) v7)
      replace hR8 : RpX G x sh li ad ar (s_u S, s_o S, s_s S, s_l S, upd (s_c S) 2 v7) ws8 := hR8
      have hx8 : hp ws8 x (.inr (3, [.ref sh, .ref li, .int (s_c S 0), .int (s_c S 1), .int v7, .int (s_c S 3), .int (s_c S 4), .int (s_c S 5), .int (s_c S 6)])) := hR8.1
      obtain ⟨dk, kd, q1, q2, q3, q4⟩ := hR8.2.2.2.1 h o ho
      rw [o_num hk] at q1
      refine lv_aload_n hx hb dX5_deep_19 rfl (lv_at hl 1 rfl) ?_
      refine r_get (ref := "SpanMover") S9 w8 hx8 rfl (by decide +kernel) 4 (by decide) (by decide +kernel) (Or.inl rfl) rfl dX5_deep_20 ?_
      refine lv_if_ne (tgt := 53) hx hb dX5_deep_23 (by decide) (fun c_23 => ?_) (fun c_23 => ?_)
      · refine lv_lconst (v := 0) hx hb dX5_deep_53 (by decide) ?_
        exact ew_l S9 hr hlk w8 (by rw [show sp_deep S pl i k = (0, s_sc S (upd (s_c S) 2 v7)) from by have e8 : ¬ ref1 (some o) i 4 4 = 0 := (by rw [← e7]; exact c_23); rw [e7]; simp [sp_deep, obj_some i_2 ho, e8]]; exact ⟨rfl, ad, ar, hR8⟩) dX5_deep_54 (by decide) (by decide)
      · obtain ⟨z1, z2, z3, z4⟩ := ref1_zero (a := 4) (b := 4) (e7.symm.trans c_23) (by decide) (by decide) (hI.ob ho).1
        omega
    · rw [o_obj hk hm] at q1
      refine lv_astore (lv' := [(4, .ref (ad h)), (0, .ref x), (1, .int pl), (2, .int i), (3, .int k)]) hx hb dX5_deep_5 hl (by decide) rfl (fun ls hl => ?_)
      refine lv_aload_n hx hb dX5_deep_7 rfl (lv_at hl 1 rfl) ?_
      refine lv_aload hx hb dX5_deep_8 (lv_at hl 0 rfl) ?_
      refine lv_iload_n hx hb dX5_deep_10 rfl (lv_at hl 3 rfl) ?_
      refine lv_iconst (v := 4) hx hb dX5_deep_11 (by decide) ?_
      refine lv_iconst (v := 4) hx hb dX5_deep_12 (by decide) ?_
      refine k_si S9 w (c_refusalAt_1 l _ q1 i 4 4) (va_cwS 4 hts gX5_deep_X5_refusalAt rfl rfl rfl (by decide +kernel) ⟨Nat.le_of_ble_eq_true rfl, Nat.le_of_ble_eq_true rfl⟩) rfl hl.1 rfl (Nat.le_of_ble_eq_true rfl) dX5_deep_13 ⟨Nat.le_of_ble_eq_true rfl, Nat.le_of_ble_eq_true rfl⟩ (fun v7 e7 => ?_)
      rw [← ref1_row (o := o) (i := i) (lo := 4) (hi := 4) (by omega)] at e7
      refine r_put (ref := "SpanMover") S9 w hR.1 rfl (by decide +kernel) tyX5_ok nmX5 4 (by decide) (by decide +kernel) (Or.inl rfl) rfl rfl rfl (Nat.le_of_ble_eq_true rfl) dX5_deep_16 (fun ws8 H8 lc8 u8 w8 => ?_)
      have hR8 := RpX.sc w.2.1 hR u8 (oX_set sh li (s_c S) 2 (by decide) v7)
      replace hR8 : RpX G x sh li ad ar (s_u S, s_o S, s_s S, s_l S, upd (s_c S) 2 v7) ws8 := hR8
      have hx8 : hp ws8 x (.inr (3, [.ref sh, .ref li, .int (s_c S 0), .int (s_c S 1), .int v7, .int (s_c S 3), .int (s_c S 4), .int (s_c S 5), .int (s_c S 6)])) := hR8.1
      obtain ⟨dk, kd, q1, q2, q3, q4⟩ := hR8.2.2.2.1 h o ho
      rw [o_obj hk hm] at q1
      refine lv_aload_n hx hb dX5_deep_19 rfl (lv_at hl 1 rfl) ?_
      refine r_get (ref := "SpanMover") S9 w8 hx8 rfl (by decide +kernel) 4 (by decide) (by decide +kernel) (Or.inl rfl) rfl dX5_deep_20 ?_
      refine lv_if_ne (tgt := 53) hx hb dX5_deep_23 (by decide) (fun c_23 => ?_) (fun c_23 => ?_)
      · refine lv_lconst (v := 0) hx hb dX5_deep_53 (by decide) ?_
        exact ew_l S9 hr hlk w8 (by rw [show sp_deep S pl i k = (0, s_sc S (upd (s_c S) 2 v7)) from by have e8 : ¬ ref1 (some o) i 4 4 = 0 := (by rw [← e7]; exact c_23); rw [e7]; simp [sp_deep, obj_some i_2 ho, e8]]; exact ⟨rfl, ad, ar, hR8⟩) dX5_deep_54 (by decide) (by decide)
      · obtain ⟨z1, z2, z3, z4⟩ := ref1_zero (a := 4) (b := 4) (e7.symm.trans c_23) (by decide) (by decide) (hI.ob ho).1
        have z5 := inE_in z3 (by have := (hI.ob ho).2; omega)
        refine lv_aload hx hb dX5_deep_26 (lv_at hl 0 rfl) ?_
        refine r_inst S9 w8 q1 (by decide) 1 (by decide) (by decide +kernel) (v := 1) rfl dX5_deep_28 ?_
        refine lv_if_eq (tgt := 53) hx hb dX5_deep_31 (by decide) (fun c_31 => absurd c_31 (by decide)) (fun c_31 => ?_)
        refine lv_aload hx hb dX5_deep_34 (lv_at hl 0 rfl) ?_
        refine r_cast S9 w8 q1 (by decide) 1 (by decide) rfl (by decide +kernel) dX5_deep_36 ?_
        refine lv_astore (lv' := [(5, .ref (ad h)), (4, .ref (ad h)), (0, .ref x), (1, .int pl), (2, .int i), (3, .int k)]) hx hb dX5_deep_39 hl (by decide) rfl (fun ls hl => ?_)
        refine lv_aload_n hx hb dX5_deep_41 rfl (lv_at hl 2 rfl) ?_
        refine lv_aload hx hb dX5_deep_42 (lv_at hl 0 rfl) ?_
        refine lv_iload_n hx hb dX5_deep_44 rfl (lv_at hl 4 rfl) ?_
        refine k_vq S9 w8 (c_objectAt l _ q1 (q4 hk hm) i z5) q1 rfl (cwV 1 hts gX5_deep_X2_objectAt rfl rfl rfl (by decide +kernel) ⟨Nat.le_of_ble_eq_true rfl, Nat.le_of_ble_eq_true rfl⟩) rfl hl.1 rfl (Nat.le_of_ble_eq_true rfl) dX5_deep_45 ⟨Nat.le_of_ble_eq_true rfl, Nat.le_of_ble_eq_true rfl⟩ (fun r10 e10 => ?_)
        subst e10
        refine lv_iload_n hx hb dX5_deep_48 rfl (lv_at hl 5 rfl) ?_
        cases he : o_e o i.toNatClampNeg with
        | none =>
          refine kw_vl S9 w8 (c_innerNumber_N l _ hR8 k) hx8 rfl (cwV 2 hts gX5_deep_X5_innerNumber rfl rfl rfl (by decide +kernel) ⟨Nat.le_of_ble_eq_true rfl, Nat.le_of_ble_eq_true rfl⟩) rfl hl.1 rfl (Nat.le_of_ble_eq_true rfl) dX5_deep_49 ⟨Nat.le_of_ble_eq_true rfl, Nat.le_of_ble_eq_true rfl⟩ (fun v12 u12 H12 lc12 p12 w12 => ?_)
          exact ew_l S9 hr hlk w12 (by rw [show sp_deep S pl i k = (v12, s_sc S (upd (s_c S) 2 5)) from by have e8 := e7.symm.trans c_23; have hO4 : obj S (o_e o i.toNatClampNeg) = none := (by rw [he]; rfl); rw [p12.1]; simp [sp_deep, obj_some i_2 ho, e8, hO4]]; exact ⟨rfl, ad, ar, by have := p12.2; simp only [s_c, upd_upd] at this; exact this⟩) dX5_deep_52 (by decide) (by decide)
        | some h4 =>
          obtain ⟨o4, ho4, hf4⟩ := hI.2.2.2.2.2.2 h o ho hk hm _ h4 he
          have hk4 : o_k o = 4 := by omega
          have hk0 : o_k o4 = 0 := by simpa [fitK, hk4] using hf4
          refine kw_vl S9 w8 (c_innerNumber_0 l _ hR8 (hI.sc _ rfl rfl) ho4 (by omega) k) hx8 rfl (cwV 2 hts gX5_deep_X5_innerNumber rfl rfl rfl (by decide +kernel) ⟨Nat.le_of_ble_eq_true rfl, Nat.le_of_ble_eq_true rfl⟩) rfl hl.1 rfl (Nat.le_of_ble_eq_true rfl) dX5_deep_49 ⟨Nat.le_of_ble_eq_true rfl, Nat.le_of_ble_eq_true rfl⟩ (fun v12 u12 H12 lc12 p12 w12 => ?_)
          exact ew_l S9 hr hlk w12 (by have e8 := e7.symm.trans c_23; have hO4 : obj S (o_e o i.toNatClampNeg) = some o4 := (by rw [he]; exact ho4); exact Or.elim (Decidable.em (inE (o_n o4) k)) (fun hE => by rw [if_pos hE] at p12; rw [show sp_deep S pl i k = (v12, s_sc S (upd (s_c S) 2 0)) from by rw [p12.1]; simp [sp_deep, obj_some i_2 ho, e8, hO4, hE]]; exact ⟨rfl, ad, ar, (by have := p12.2; rw [c_23] at this; exact this)⟩) (fun hE => by rw [if_neg hE] at p12; rw [show sp_deep S pl i k = (v12, s_sc S (upd (s_c S) 2 6)) from by rw [p12.1]; simp [sp_deep, obj_some i_2 ho, e8, hO4, hE]]; exact ⟨rfl, ad, ar, (by have := p12.2; simp only [s_c, upd_upd] at this; exact this)⟩)) dX5_deep_52 (by decide) (by decide)
    · rw [o_thg hk] at q1
      refine lv_astore (lv' := [(4, .ref (ad h)), (0, .ref x), (1, .int pl), (2, .int i), (3, .int k)]) hx hb dX5_deep_5 hl (by decide) rfl (fun ls hl => ?_)
      refine lv_aload_n hx hb dX5_deep_7 rfl (lv_at hl 1 rfl) ?_
      refine lv_aload hx hb dX5_deep_8 (lv_at hl 0 rfl) ?_
      refine lv_iload_n hx hb dX5_deep_10 rfl (lv_at hl 3 rfl) ?_
      refine lv_iconst (v := 4) hx hb dX5_deep_11 (by decide) ?_
      refine lv_iconst (v := 4) hx hb dX5_deep_12 (by decide) ?_
      refine k_si S9 w (c_refusalAt_2 l _ q1 i 4 4) (va_cwS 4 hts gX5_deep_X5_refusalAt rfl rfl rfl (by decide +kernel) ⟨Nat.le_of_ble_eq_true rfl, Nat.le_of_ble_eq_true rfl⟩) rfl hl.1 rfl (Nat.le_of_ble_eq_true rfl) dX5_deep_13 ⟨Nat.le_of_ble_eq_true rfl, Nat.le_of_ble_eq_true rfl⟩ (fun v7 e7 => ?_)
      rw [← ref1_thg (o := o) (i := i) (lo := 4) (hi := 4) hk] at e7
      refine r_put (ref := "SpanMover") S9 w hR.1 rfl (by decide +kernel) tyX5_ok nmX5 4 (by decide) (by decide +kernel) (Or.inl rfl) rfl rfl rfl (Nat.le_of_ble_eq_true rfl) dX5_deep_16 (fun ws8 H8 lc8 u8 w8 => ?_)
      have hR8 := RpX.sc w.2.1 hR u8 (oX_set sh li (s_c S) 2 (by decide) v7)
      replace hR8 : RpX G x sh li ad ar (s_u S, s_o S, s_s S, s_l S, upd (s_c S) 2 v7) ws8 := hR8
      have hx8 : hp ws8 x (.inr (3, [.ref sh, .ref li, .int (s_c S 0), .int (s_c S 1), .int v7, .int (s_c S 3), .int (s_c S 4), .int (s_c S 5), .int (s_c S 6)])) := hR8.1
      obtain ⟨dk, kd, q1, q2, q3, q4⟩ := hR8.2.2.2.1 h o ho
      rw [o_thg hk] at q1
      refine lv_aload_n hx hb dX5_deep_19 rfl (lv_at hl 1 rfl) ?_
      refine r_get (ref := "SpanMover") S9 w8 hx8 rfl (by decide +kernel) 4 (by decide) (by decide +kernel) (Or.inl rfl) rfl dX5_deep_20 ?_
      refine lv_if_ne (tgt := 53) hx hb dX5_deep_23 (by decide) (fun c_23 => ?_) (fun c_23 => ?_)
      · refine lv_lconst (v := 0) hx hb dX5_deep_53 (by decide) ?_
        exact ew_l S9 hr hlk w8 (by rw [show sp_deep S pl i k = (0, s_sc S (upd (s_c S) 2 v7)) from by have e8 : ¬ ref1 (some o) i 4 4 = 0 := (by rw [← e7]; exact c_23); rw [e7]; simp [sp_deep, obj_some i_2 ho, e8]]; exact ⟨rfl, ad, ar, hR8⟩) dX5_deep_54 (by decide) (by decide)
      · exact absurd ((ref1_thg hk).symm.trans (e7.symm.trans c_23)) (by decide)

set_option maxHeartbeats 4000000 in
set_option maxRecDepth 100000 in
theorem c_standLifted_N (l : Launch) {G : Gt} {ws : va_W} (sz : Nat) {x : Nat} : Met l yX5_standLifted wsX5_standLifted ({ frames := 1, cells := 0, slots := 0, locals := 21 } : Room) (Pw G [.ref x, .null] ws sz) (va_Qi (fun (r : Int32) (u : va_W) => r = -5 ∧ u = ws) (Bw G ws sz) (va_A ws sz)) 0 0 (va_A ws sz) := by
  refine Met_pw (cc := cX5_standLifted) (maxL := 3) (ret := (some .int)) (by decide) rfl (Nat.le_of_ble_eq_true rfl) ?_
  intro p e s m below meth c ls hsz S9 hr hlk hnm w hl
  subst hsz
  replace S9 : CallFix p m c cX5_standLifted 3 s _ wsX5_standLifted RX5 := S9
  have hx := S9.1
  have hb := S9.2.1
  have hown := S9.2.2.2.1
  have hts := S9.2.2.2.2
  replace hl : lv_has ls 3 [(0, .ref x), (1, .null)] := hl
  refine lv_aload_nN hx hb dX5_standLifted_0 rfl (lv_at hl 1 rfl) ?_
  refine lv_ifnonnullN hx hb dX5_standLifted_1 ?_
  refine lv_bipush (v := (-5)) hx hb dX5_standLifted_4 (by decide) ?_
  exact ew_i S9 hr hlk w (⟨rfl, rfl⟩) dX5_standLifted_6 (by decide) (by decide)

set_option maxHeartbeats 4000000 in
set_option maxRecDepth 100000 in
theorem c_standLifted_S (l : Launch) {G : Gt} {ws : va_W} (sz : Nat) {x sh li : Nat} {ad ar : Nat → Nat} {S : St} (hR : RpX G x sh li ad ar S ws) {h : Nat} {o : Ob} (ho : s_o S h = some o) : Met l yX5_standLifted wsX5_standLifted ({ frames := 1, cells := 0, slots := 0, locals := 21 } : Room) (Pw G [.ref x, .ref (ad h)] ws sz) (va_Qi (fun (r : Int32) (u : va_W) => match lowE S with | none => r = -6 ∧ RpX G x sh li ad ar S u | some p4 => r = nI p4 ∧ RpX G x sh li ad ar (s_sh S (va_up (s_s S) p4 (some h))) u) (Bw G ws sz) (va_A ws sz)) 0 0 (va_A ws sz) := by
  refine Met_pw (cc := cX5_standLifted) (maxL := 3) (ret := (some .int)) (by decide) rfl (Nat.le_of_ble_eq_true rfl) ?_
  intro p e s m below meth c ls hsz S9 hr hlk hnm w hl
  subst hsz
  replace S9 : CallFix p m c cX5_standLifted 3 s _ wsX5_standLifted RX5 := S9
  have hx := S9.1
  have hb := S9.2.1
  have hown := S9.2.2.2.1
  have hts := S9.2.2.2.2
  replace hl : lv_has ls 3 [(0, .ref x), (1, .ref (ad h))] := hl
  refine lv_aload_n hx hb dX5_standLifted_0 rfl (lv_at hl 1 rfl) ?_
  refine lv_ifnonnull (tgt := 7) hx hb dX5_standLifted_1 (by decide) ?_
  refine lv_aload_n hx hb dX5_standLifted_7 rfl (lv_at hl 0 rfl) ?_
  refine kx_low S9 w hR gX5_standLifted_X5_lowestEmptyPlace hl.1 (Nat.le_of_ble_eq_true rfl) dX5_standLifted_8 ⟨Nat.le_of_ble_eq_true rfl, Nat.le_of_ble_eq_true rfl⟩ ⟨Nat.le_of_ble_eq_true rfl, Nat.le_of_ble_eq_true rfl⟩ (fun v7 e7 => ?_)
  refine lv_istore_n (lv' := [(2, .int v7), (0, .ref x), (1, .ref (ad h))]) hx hb dX5_standLifted_11 rfl hl (by decide) rfl (fun ls hl => ?_)
  refine lv_iload_n hx hb dX5_standLifted_12 rfl (lv_at hl 0 rfl) ?_
  refine lv_iconst (v := (-1)) hx hb dX5_standLifted_13 (by decide) ?_
  refine lv_icmp_ne (tgt := 20) hx hb dX5_standLifted_14 (by decide) (fun c_14 => ?_) (fun c_14 => ?_)
  · refine lv_aload_n hx hb dX5_standLifted_20 rfl (lv_at hl 1 rfl) ?_
    refine r_get (ref := "SpanMover") S9 w hR.1 rfl (by decide +kernel) 0 (by decide) (by decide +kernel) (Or.inl rfl) rfl dX5_standLifted_21 ?_
    refine lv_iload_n hx hb dX5_standLifted_24 rfl (lv_at hl 0 rfl) ?_
    refine lv_aload_n hx hb dX5_standLifted_25 rfl (lv_at hl 2 rfl) ?_
    obtain ⟨p4, hp4⟩ : ∃ p4, lowE S = some p4 := by
      cases hq : lowE S with
      | none => rw [hq] at e7; exact absurd e7 c_14
      | some p4 => exact ⟨p4, rfl⟩
    have hp5 := lowE_lt hp4
    have e8 : v7 = nI p4 := by rw [e7, hp4]; rfl
    obtain ⟨dk, kd, q1, q2, q3, q4⟩ := hR.2.2.2.1 h o ho
    refine r_aast (r := some (ad h)) S9 w hR.2.1 (fun z hz => by cases hz; exact w.any q1 (o_cl3 _)) (by rw [e8]; exact vp_in_nI hp5.1 (by decide)) dX5_standLifted_26 (fun ws8 H8 lc8 u8 w8 => ?_)
    have hR8 := RpX.sf (f := va_up (s_s S) p4 (some h)) w.2.1 hR u8 (by rw [cl_nI e8 (by omega)]; exact congrArg (aT G 400) (map_up (r := some h)))
    refine lv_iload_n hx hb dX5_standLifted_27 rfl (lv_at hl 0 rfl) ?_
    exact ew_i S9 hr hlk w8 (by rw [hp4]; exact ⟨e8, hR8⟩) dX5_standLifted_28 (by decide) (by decide)
  · refine lv_bipush (v := (-6)) hx hb dX5_standLifted_17 (by decide) ?_
    exact ew_i S9 hr hlk w (by cases hq : lowE S with | none => exact ⟨rfl, hR⟩ | some p4 => (have hp5 := lowE_lt hq; rw [hq] at e7; rw [e7] at c_14; exact absurd c_14 (pI_ne hp5.1))) dX5_standLifted_19 (by decide) (by decide)

set_option maxHeartbeats 4000000 in
set_option maxRecDepth 100000 in
theorem c_lift (l : Launch) {G : Gt} {ws : va_W} (sz : Nat) {x sh li : Nat} {ad ar : Nat → Nat} {S : St} (hR : RpX G x sh li ad ar S ws) (hI : Inv S) (pl i : Int32) : Met l yX5_lift wsX5_lift ({ frames := 2, cells := 0, slots := 0, locals := 45 } : Room) (Pw G [.ref x, .int pl, .int i] ws sz) (va_Qi (fun (r : Int32) (u : va_W) => r = (sp_lift S pl i).1 ∧ ∃ ad2 ar2, RpX G x sh li ad2 ar2 (sp_lift S pl i).2 u) (Bw G ws sz) (va_A ws sz)) 0 0 (va_A ws sz) := by
  refine Met_pw (cc := cX5_lift) (maxL := 6) (ret := (some .int)) (by decide) rfl (Nat.le_of_ble_eq_true rfl) ?_
  intro p e s m below meth c ls hsz S9 hr hlk hnm w hl
  subst hsz
  replace S9 : CallFix p m c cX5_lift 6 s _ wsX5_lift RX5 := S9
  have hx := S9.1
  have hb := S9.2.1
  have hown := S9.2.2.2.1
  have hts := S9.2.2.2.2
  replace hl : lv_has ls 6 [(0, .ref x), (1, .int pl), (2, .int i)] := hl
  refine lv_aload_n hx hb dX5_lift_0 rfl (lv_at hl 0 rfl) ?_
  refine lv_iload_n hx hb dX5_lift_1 rfl (lv_at hl 1 rfl) ?_
  refine kx_itemAt S9 w hR hI gX5_lift_X5_itemAt hl.1 (Nat.le_of_ble_eq_true rfl) dX5_lift_2 ⟨Nat.le_of_ble_eq_true rfl, Nat.le_of_ble_eq_true rfl⟩ ⟨Nat.le_of_ble_eq_true rfl, Nat.le_of_ble_eq_true rfl⟩ (fun i_2 => ?_) (fun h o i_2 ho => ?_)
  · refine lv_astore_nN (lv' := [(3, .null), (0, .ref x), (1, .int pl), (2, .int i)]) hx hb dX5_lift_5 rfl hl (by decide) rfl (fun ls hl => ?_)
    refine lv_aload_nN hx hb dX5_lift_6 rfl (lv_at hl 0 rfl) ?_
    refine lv_iload_n hx hb dX5_lift_7 rfl (lv_at hl 3 rfl) ?_
    refine lv_iconst (v := 4) hx hb dX5_lift_8 (by decide) ?_
    refine lv_bipush (v := 6) hx hb dX5_lift_9 (by decide) ?_
    refine k_si S9 w (c_refusalAt_N l _ i 4 6) (va_cwS 4 hts gX5_lift_X5_refusalAt rfl rfl rfl (by decide +kernel) ⟨Nat.le_of_ble_eq_true rfl, Nat.le_of_ble_eq_true rfl⟩) rfl hl.1 rfl (Nat.le_of_ble_eq_true rfl) dX5_lift_11 ⟨Nat.le_of_ble_eq_true rfl, Nat.le_of_ble_eq_true rfl⟩ (fun v7 e7 => ?_)
    refine lv_istore (lv' := [(4, .int v7), (3, .null), (0, .ref x), (1, .int pl), (2, .int i)]) hx hb dX5_lift_14 hl (by decide) rfl (fun ls hl => ?_)
    refine lv_iload hx hb dX5_lift_16 (lv_at hl 0 rfl) ?_
    refine lv_if_ne (tgt := 45) hx hb dX5_lift_18 (by decide) (fun c_18 => ?_) (fun c_18 => ?_)
    · refine lv_iload hx hb dX5_lift_45 (lv_at hl 0 rfl) ?_
      refine lv_ineg hx hb dX5_lift_47 ?_
      refine lv_topi (fun v1 ev1 => ?_)
      exact ew_i S9 hr hlk w (by rw [show sp_lift S pl i = (v1, S) from by rw [ev1, e7]; simp [sp_lift, obj_none i_2]]; exact ⟨rfl, ad, ar, hR⟩) dX5_lift_48 (by decide) (by decide)
    · exact absurd (e7.symm.trans c_18) (by decide)
  · obtain ⟨dk, kd, q1, q2, q3, q4⟩ := hR.2.2.2.1 h o ho
    rcases (show o_k o ≤ 3 ∨ (4 ≤ o_k o ∧ o_k o ≤ 6) ∨ 7 ≤ o_k o by omega) with hk | ⟨hk, hm⟩ | hk
    · rw [o_num hk] at q1
      refine lv_astore_n (lv' := [(3, .ref (ad h)), (0, .ref x), (1, .int pl), (2, .int i)]) hx hb dX5_lift_5 rfl hl (by decide) rfl (fun ls hl => ?_)
      refine lv_aload_n hx hb dX5_lift_6 rfl (lv_at hl 0 rfl) ?_
      refine lv_iload_n hx hb dX5_lift_7 rfl (lv_at hl 3 rfl) ?_
      refine lv_iconst (v := 4) hx hb dX5_lift_8 (by decide) ?_
      refine lv_bipush (v := 6) hx hb dX5_lift_9 (by decide) ?_
      refine k_si S9 w (c_refusalAt_0 l _ q1 i 4 6) (va_cwS 4 hts gX5_lift_X5_refusalAt rfl rfl rfl (by decide +kernel) ⟨Nat.le_of_ble_eq_true rfl, Nat.le_of_ble_eq_true rfl⟩) rfl hl.1 rfl (Nat.le_of_ble_eq_true rfl) dX5_lift_11 ⟨Nat.le_of_ble_eq_true rfl, Nat.le_of_ble_eq_true rfl⟩ (fun v7 e7 => ?_)
      rw [← ref1_row (o := o) (i := i) (lo := 4) (hi := 6) (by omega)] at e7
      refine lv_istore (lv' := [(4, .int v7), (3, .ref (ad h)), (0, .ref x), (1, .int pl), (2, .int i)]) hx hb dX5_lift_14 hl (by decide) rfl (fun ls hl => ?_)
      refine lv_iload hx hb dX5_lift_16 (lv_at hl 0 rfl) ?_
      refine lv_if_ne (tgt := 45) hx hb dX5_lift_18 (by decide) (fun c_18 => ?_) (fun c_18 => ?_)
      · refine lv_iload hx hb dX5_lift_45 (lv_at hl 0 rfl) ?_
        refine lv_ineg hx hb dX5_lift_47 ?_
        refine lv_topi (fun v2 ev2 => ?_)
        exact ew_i S9 hr hlk w (by rw [show sp_lift S pl i = (v2, S) from by have e8 : ¬ ref1 (some o) i 4 6 = 0 := (by rw [← e7]; exact c_18); rw [ev2, e7]; simp [sp_lift, obj_some i_2 ho, e8]]; exact ⟨rfl, ad, ar, hR⟩) dX5_lift_48 (by decide) (by decide)
      · obtain ⟨z1, z2, z3, z4⟩ := ref1_zero (a := 4) (b := 6) (e7.symm.trans c_18) (by decide) (by decide) (hI.ob ho).1
        omega
    · rw [o_obj hk hm] at q1
      refine lv_astore_n (lv' := [(3, .ref (ad h)), (0, .ref x), (1, .int pl), (2, .int i)]) hx hb dX5_lift_5 rfl hl (by decide) rfl (fun ls hl => ?_)
      refine lv_aload_n hx hb dX5_lift_6 rfl (lv_at hl 0 rfl) ?_
      refine lv_iload_n hx hb dX5_lift_7 rfl (lv_at hl 3 rfl) ?_
      refine lv_iconst (v := 4) hx hb dX5_lift_8 (by decide) ?_
      refine lv_bipush (v := 6) hx hb dX5_lift_9 (by decide) ?_
      refine k_si S9 w (c_refusalAt_1 l _ q1 i 4 6) (va_cwS 4 hts gX5_lift_X5_refusalAt rfl rfl rfl (by decide +kernel) ⟨Nat.le_of_ble_eq_true rfl, Nat.le_of_ble_eq_true rfl⟩) rfl hl.1 rfl (Nat.le_of_ble_eq_true rfl) dX5_lift_11 ⟨Nat.le_of_ble_eq_true rfl, Nat.le_of_ble_eq_true rfl⟩ (fun v7 e7 => ?_)
      rw [← ref1_row (o := o) (i := i) (lo := 4) (hi := 6) (by omega)] at e7
      refine lv_istore (lv' := [(4, .int v7), (3, .ref (ad h)), (0, .ref x), (1, .int pl), (2, .int i)]) hx hb dX5_lift_14 hl (by decide) rfl (fun ls hl => ?_)
      refine lv_iload hx hb dX5_lift_16 (lv_at hl 0 rfl) ?_
      refine lv_if_ne (tgt := 45) hx hb dX5_lift_18 (by decide) (fun c_18 => ?_) (fun c_18 => ?_)
      · refine lv_iload hx hb dX5_lift_45 (lv_at hl 0 rfl) ?_
        refine lv_ineg hx hb dX5_lift_47 ?_
        refine lv_topi (fun v3 ev3 => ?_)
        exact ew_i S9 hr hlk w (by rw [show sp_lift S pl i = (v3, S) from by have e8 : ¬ ref1 (some o) i 4 6 = 0 := (by rw [← e7]; exact c_18); rw [ev3, e7]; simp [sp_lift, obj_some i_2 ho, e8]]; exact ⟨rfl, ad, ar, hR⟩) dX5_lift_48 (by decide) (by decide)
      · obtain ⟨z1, z2, z3, z4⟩ := ref1_zero (a := 4) (b := 6) (e7.symm.trans c_18) (by decide) (by decide) (hI.ob ho).1
        have z5 := inE_in z3 (by have := (hI.ob ho).2; omega)
        refine lv_aload_n hx hb dX5_lift_21 rfl (lv_at hl 1 rfl) ?_
        refine r_inst S9 w q1 (by decide) 1 (by decide) (by decide +kernel) (v := 1) rfl dX5_lift_22 ?_
        refine lv_if_eq (tgt := 45) hx hb dX5_lift_25 (by decide) (fun c_25 => absurd c_25 (by decide)) (fun c_25 => ?_)
        refine lv_aload_n hx hb dX5_lift_28 rfl (lv_at hl 1 rfl) ?_
        refine r_cast S9 w q1 (by decide) 1 (by decide) rfl (by decide +kernel) dX5_lift_29 ?_
        refine lv_astore (lv' := [(5, .ref (ad h)), (4, .int v7), (3, .ref (ad h)), (0, .ref x), (1, .int pl), (2, .int i)]) hx hb dX5_lift_32 hl (by decide) rfl (fun ls hl => ?_)
        refine lv_aload_n hx hb dX5_lift_34 rfl (lv_at hl 3 rfl) ?_
        refine lv_aload hx hb dX5_lift_35 (lv_at hl 0 rfl) ?_
        refine lv_iload_n hx hb dX5_lift_37 rfl (lv_at hl 5 rfl) ?_
        refine k_vq S9 w (c_objectAt l _ q1 (q4 hk hm) i z5) q1 rfl (cwV 1 hts gX5_lift_X2_objectAt rfl rfl rfl (by decide +kernel) ⟨Nat.le_of_ble_eq_true rfl, Nat.le_of_ble_eq_true rfl⟩) rfl hl.1 rfl (Nat.le_of_ble_eq_true rfl) dX5_lift_38 ⟨Nat.le_of_ble_eq_true rfl, Nat.le_of_ble_eq_true rfl⟩ (fun r10 e10 => ?_)
        subst e10
        cases he : o_e o i.toNatClampNeg with
        | none =>
          refine kw_vi S9 w (c_standLifted_N l _) hR.1 rfl (cwV 1 hts gX5_lift_X5_standLifted rfl rfl rfl (by decide +kernel) ⟨Nat.le_of_ble_eq_true rfl, Nat.le_of_ble_eq_true rfl⟩) rfl hl.1 rfl (Nat.le_of_ble_eq_true rfl) dX5_lift_41 ⟨Nat.le_of_ble_eq_true rfl, Nat.le_of_ble_eq_true rfl⟩ (fun v12 u12 H12 lc12 p12 w12 => ?_)
          exact ew_i S9 hr hlk w12 (by have e8 := e7.symm.trans c_18; rw [show sp_lift S pl i = (v12, S) from by rw [p12.1]; simp [sp_lift, obj_some i_2 ho, e8, he]]; exact ⟨rfl, ad, ar, by rw [p12.2]; exact hR⟩) dX5_lift_44 (by decide) (by decide)
        | some h4 =>
          obtain ⟨o4, ho4⟩ := hI.el ho hk hm _ h4 he
          refine kw_vi S9 w (c_standLifted_S l _ hR ho4) hR.1 rfl (cwV 1 hts gX5_lift_X5_standLifted rfl rfl rfl (by decide +kernel) ⟨Nat.le_of_ble_eq_true rfl, Nat.le_of_ble_eq_true rfl⟩) rfl hl.1 rfl (Nat.le_of_ble_eq_true rfl) dX5_lift_41 ⟨Nat.le_of_ble_eq_true rfl, Nat.le_of_ble_eq_true rfl⟩ (fun v12 u12 H12 lc12 p12 w12 => ?_)
          exact ew_i S9 hr hlk w12 (by have e8 := e7.symm.trans c_18; cases hq : lowE S with | none => (rw [hq] at p12; rw [show sp_lift S pl i = (v12, S) from by rw [p12.1]; simp [sp_lift, obj_some i_2 ho, e8, he, hq]]; exact ⟨rfl, ad, ar, p12.2⟩) | some p4 => (rw [hq] at p12; rw [show sp_lift S pl i = (v12, s_sh S (va_up (s_s S) p4 (some h4))) from by rw [p12.1]; simp [sp_lift, obj_some i_2 ho, e8, he, hq]]; exact ⟨rfl, ad, ar, p12.2⟩)) dX5_lift_44 (by decide) (by decide)
    · rw [o_thg hk] at q1
      refine lv_astore_n (lv' := [(3, .ref (ad h)), (0, .ref x), (1, .int pl), (2, .int i)]) hx hb dX5_lift_5 rfl hl (by decide) rfl (fun ls hl => ?_)
      refine lv_aload_n hx hb dX5_lift_6 rfl (lv_at hl 0 rfl) ?_
      refine lv_iload_n hx hb dX5_lift_7 rfl (lv_at hl 3 rfl) ?_
      refine lv_iconst (v := 4) hx hb dX5_lift_8 (by decide) ?_
      refine lv_bipush (v := 6) hx hb dX5_lift_9 (by decide) ?_
      refine k_si S9 w (c_refusalAt_2 l _ q1 i 4 6) (va_cwS 4 hts gX5_lift_X5_refusalAt rfl rfl rfl (by decide +kernel) ⟨Nat.le_of_ble_eq_true rfl, Nat.le_of_ble_eq_true rfl⟩) rfl hl.1 rfl (Nat.le_of_ble_eq_true rfl) dX5_lift_11 ⟨Nat.le_of_ble_eq_true rfl, Nat.le_of_ble_eq_true rfl⟩ (fun v7 e7 => ?_)
      rw [← ref1_thg (o := o) (i := i) (lo := 4) (hi := 6) hk] at e7
      refine lv_istore (lv' := [(4, .int v7), (3, .ref (ad h)), (0, .ref x), (1, .int pl), (2, .int i)]) hx hb dX5_lift_14 hl (by decide) rfl (fun ls hl => ?_)
      refine lv_iload hx hb dX5_lift_16 (lv_at hl 0 rfl) ?_
      refine lv_if_ne (tgt := 45) hx hb dX5_lift_18 (by decide) (fun c_18 => ?_) (fun c_18 => ?_)
      · refine lv_iload hx hb dX5_lift_45 (lv_at hl 0 rfl) ?_
        refine lv_ineg hx hb dX5_lift_47 ?_
        refine lv_topi (fun v4 ev4 => ?_)
        exact ew_i S9 hr hlk w (by rw [show sp_lift S pl i = (v4, S) from by have e8 : ¬ ref1 (some o) i 4 6 = 0 := (by rw [← e7]; exact c_18); rw [ev4, e7]; simp [sp_lift, obj_some i_2 ho, e8]]; exact ⟨rfl, ad, ar, hR⟩) dX5_lift_48 (by decide) (by decide)
      · exact absurd ((ref1_thg hk).symm.trans (e7.symm.trans c_18)) (by decide)
