set_option maxHeartbeats 4000000 in
set_option maxRecDepth 100000 in
theorem c_set (l : Launch) {G : Gt} {ws : va_W} (sz : Nat) {x sh li : Nat} {ad ar : Nat → Nat} {S : St} (hR : RpX G x sh li ad ar S ws) (hI : Inv S) (pl i : Int32) (v : Int64) : Met l yX5_set wsX5_set ({ frames := 2, cells := 0, slots := 0, locals := 45 } : Room) (Pw G [.ref x, .int pl, .int i, .long v] ws sz) (va_Qi (fun (r : Int32) (u : va_W) => r = (sp_set S pl i v).1 ∧ ∃ ad2 ar2, RpX G x sh li ad2 ar2 (sp_set S pl i v).2 u) (Bw G ws sz) (va_A ws sz)) 0 0 (va_A ws sz) := by
  refine Met_pw (cc := cX5_set) (maxL := 8) (ret := (some .int)) (by decide) rfl (Nat.le_of_ble_eq_true rfl) ?_
  intro p e s m below meth c ls hsz S9 hr hlk hnm w hl
  subst hsz
  replace S9 : CallFix p m c cX5_set 8 s _ wsX5_set RX5 := S9
  have hx := S9.1
  have hb := S9.2.1
  have hown := S9.2.2.2.1
  have hts := S9.2.2.2.2
  replace hl : lv_has ls 8 [(0, .ref x), (1, .int pl), (2, .int i), (3, .long v)] := hl
  refine lv_aload_n hx hb dX5_set_0 rfl (lv_at hl 0 rfl) ?_
  refine lv_iload_n hx hb dX5_set_1 rfl (lv_at hl 1 rfl) ?_
  refine kx_itemAt S9 w hR hI gX5_set_X5_itemAt hl.1 (Nat.le_of_ble_eq_true rfl) dX5_set_2 ⟨Nat.le_of_ble_eq_true rfl, Nat.le_of_ble_eq_true rfl⟩ ⟨Nat.le_of_ble_eq_true rfl, Nat.le_of_ble_eq_true rfl⟩ (fun i_2 => ?_) (fun h o i_2 ho => ?_)
  · refine lv_astoreN (lv' := [(5, .null), (0, .ref x), (1, .int pl), (2, .int i), (3, .long v)]) hx hb dX5_set_5 hl (by decide) rfl (fun ls hl => ?_)
    refine lv_aloadN hx hb dX5_set_7 (lv_at hl 0 rfl) ?_
    refine lv_iload_n hx hb dX5_set_9 rfl (lv_at hl 3 rfl) ?_
    refine lv_iconst (v := 0) hx hb dX5_set_10 (by decide) ?_
    refine lv_iconst (v := 3) hx hb dX5_set_11 (by decide) ?_
    refine k_si S9 w (c_refusalAt_N l _ i 0 3) (va_cwS 4 hts gX5_set_X5_refusalAt rfl rfl rfl (by decide +kernel) ⟨Nat.le_of_ble_eq_true rfl, Nat.le_of_ble_eq_true rfl⟩) rfl hl.1 rfl (Nat.le_of_ble_eq_true rfl) dX5_set_12 ⟨Nat.le_of_ble_eq_true rfl, Nat.le_of_ble_eq_true rfl⟩ (fun v7 e7 => ?_)
    refine lv_istore (lv' := [(6, .int v7), (5, .null), (0, .ref x), (1, .int pl), (2, .int i), (3, .long v)]) hx hb dX5_set_15 hl (by decide) rfl (fun ls hl => ?_)
    refine lv_iload hx hb dX5_set_17 (lv_at hl 0 rfl) ?_
    refine lv_if_ne (tgt := 44) hx hb dX5_set_19 (by decide) (fun c_19 => ?_) (fun c_19 => ?_)
    · refine lv_iload hx hb dX5_set_44 (lv_at hl 0 rfl) ?_
      exact ew_i S9 hr hlk w (by rw [show sp_set S pl i v = (v7, S) from by rw [e7]; simp [sp_set, i_2]]; exact ⟨rfl, ad, ar, hR⟩) dX5_set_46 (by decide) (by decide)
    · exact absurd (e7.symm.trans c_19) (by decide)
  · obtain ⟨dk, kd, q1, q2, q3, q4⟩ := hR.2.2.2.1 h o ho
    rcases (show o_k o ≤ 3 ∨ (4 ≤ o_k o ∧ o_k o ≤ 6) ∨ 7 ≤ o_k o by omega) with hk | ⟨hk, hm⟩ | hk
    · rw [o_num hk] at q1
      refine lv_astore (lv' := [(5, .ref (ad h)), (0, .ref x), (1, .int pl), (2, .int i), (3, .long v)]) hx hb dX5_set_5 hl (by decide) rfl (fun ls hl => ?_)
      refine lv_aload hx hb dX5_set_7 (lv_at hl 0 rfl) ?_
      refine lv_iload_n hx hb dX5_set_9 rfl (lv_at hl 3 rfl) ?_
      refine lv_iconst (v := 0) hx hb dX5_set_10 (by decide) ?_
      refine lv_iconst (v := 3) hx hb dX5_set_11 (by decide) ?_
      refine k_si S9 w (c_refusalAt_0 l _ q1 i 0 3) (va_cwS 4 hts gX5_set_X5_refusalAt rfl rfl rfl (by decide +kernel) ⟨Nat.le_of_ble_eq_true rfl, Nat.le_of_ble_eq_true rfl⟩) rfl hl.1 rfl (Nat.le_of_ble_eq_true rfl) dX5_set_12 ⟨Nat.le_of_ble_eq_true rfl, Nat.le_of_ble_eq_true rfl⟩ (fun v7 e7 => ?_)
      rw [← ref1_row (o := o) (i := i) (lo := 0) (hi := 3) (by omega)] at e7
      refine lv_istore (lv' := [(6, .int v7), (5, .ref (ad h)), (0, .ref x), (1, .int pl), (2, .int i), (3, .long v)]) hx hb dX5_set_15 hl (by decide) rfl (fun ls hl => ?_)
      refine lv_iload hx hb dX5_set_17 (lv_at hl 0 rfl) ?_
      refine lv_if_ne (tgt := 44) hx hb dX5_set_19 (by decide) (fun c_19 => ?_) (fun c_19 => ?_)
      · refine lv_iload hx hb dX5_set_44 (lv_at hl 0 rfl) ?_
        exact ew_i S9 hr hlk w (by rw [show sp_set S pl i v = (v7, S) from by rw [e7] at c_19; rw [e7]; simp [sp_set, i_2, ho, c_19]]; exact ⟨rfl, ad, ar, hR⟩) dX5_set_46 (by decide) (by decide)
      · obtain ⟨z1, z2, z3, z4⟩ := ref1_zero (a := 0) (b := 3) (e7.symm.trans c_19) (by decide) (by decide) (hI.ob ho).1
        have z5 := inE_in z3 (by have := (hI.ob ho).2; omega)
        refine lv_aload hx hb dX5_set_22 (lv_at hl 1 rfl) ?_
        refine r_inst S9 w q1 (by decide) 0 (by decide) (by decide +kernel) (v := 1) rfl dX5_set_24 ?_
        refine lv_if_eq (tgt := 44) hx hb dX5_set_27 (by decide) (fun c_27 => absurd c_27 (by decide)) (fun c_27 => ?_)
        refine lv_aload hx hb dX5_set_30 (lv_at hl 1 rfl) ?_
        refine r_cast S9 w q1 (by decide) 0 (by decide) rfl (by decide +kernel) dX5_set_32 ?_
        refine lv_astore (lv' := [(7, .ref (ad h)), (6, .int v7), (5, .ref (ad h)), (0, .ref x), (1, .int pl), (2, .int i), (3, .long v)]) hx hb dX5_set_35 hl (by decide) rfl (fun ls hl => ?_)
        refine lv_aload hx hb dX5_set_37 (lv_at hl 0 rfl) ?_
        refine lv_iload_n hx hb dX5_set_39 rfl (lv_at hl 5 rfl) ?_
        refine lv_lload_n hx hb dX5_set_40 rfl (lv_at hl 6 rfl) ?_
        refine kw_vv S9 w (c_put l _ q1 hk (q3 hk) i z5 v) q1 rfl (cwV 2 hts gX5_set_X1_put rfl rfl rfl (by decide +kernel) ⟨Nat.le_of_ble_eq_true rfl, Nat.le_of_ble_eq_true rfl⟩) rfl hl.1 rfl (Nat.le_of_ble_eq_true rfl) dX5_set_41 ⟨Nat.le_of_ble_eq_true rfl, Nat.le_of_ble_eq_true rfl⟩ (fun u8 H8 lc8 p8 w8 => ?_)
        obtain ⟨ws9, y1, y2⟩ := p8
        have hR8 := RpX.num w.2.1 hR ho hk y1 y2
        refine lv_iload hx hb dX5_set_44 (lv_at hl 1 rfl) ?_
        exact ew_i S9 hr hlk w8 (by rw [show sp_set S pl i v = (v7, s_put S h (o_setf o (vp_updL (o_f o) i.toNatClampNeg (narK (o_k o) v)))) from by have e8 := e7.symm.trans c_19; simp [sp_set, i_2, ho, e8, c_19]]; exact ⟨rfl, ad, ar, hR8⟩) dX5_set_46 (by decide) (by decide)
    · rw [o_obj hk hm] at q1
      refine lv_astore (lv' := [(5, .ref (ad h)), (0, .ref x), (1, .int pl), (2, .int i), (3, .long v)]) hx hb dX5_set_5 hl (by decide) rfl (fun ls hl => ?_)
      refine lv_aload hx hb dX5_set_7 (lv_at hl 0 rfl) ?_
      refine lv_iload_n hx hb dX5_set_9 rfl (lv_at hl 3 rfl) ?_
      refine lv_iconst (v := 0) hx hb dX5_set_10 (by decide) ?_
      refine lv_iconst (v := 3) hx hb dX5_set_11 (by decide) ?_
      refine k_si S9 w (c_refusalAt_1 l _ q1 i 0 3) (va_cwS 4 hts gX5_set_X5_refusalAt rfl rfl rfl (by decide +kernel) ⟨Nat.le_of_ble_eq_true rfl, Nat.le_of_ble_eq_true rfl⟩) rfl hl.1 rfl (Nat.le_of_ble_eq_true rfl) dX5_set_12 ⟨Nat.le_of_ble_eq_true rfl, Nat.le_of_ble_eq_true rfl⟩ (fun v7 e7 => ?_)
      rw [← ref1_row (o := o) (i := i) (lo := 0) (hi := 3) (by omega)] at e7
      refine lv_istore (lv' := [(6, .int v7), (5, .ref (ad h)), (0, .ref x), (1, .int pl), (2, .int i), (3, .long v)]) hx hb dX5_set_15 hl (by decide) rfl (fun ls hl => ?_)
      refine lv_iload hx hb dX5_set_17 (lv_at hl 0 rfl) ?_
      refine lv_if_ne (tgt := 44) hx hb dX5_set_19 (by decide) (fun c_19 => ?_) (fun c_19 => ?_)
      · refine lv_iload hx hb dX5_set_44 (lv_at hl 0 rfl) ?_
        exact ew_i S9 hr hlk w (by rw [show sp_set S pl i v = (v7, S) from by rw [e7] at c_19; rw [e7]; simp [sp_set, i_2, ho, c_19]]; exact ⟨rfl, ad, ar, hR⟩) dX5_set_46 (by decide) (by decide)
      · obtain ⟨z1, z2, z3, z4⟩ := ref1_zero (a := 0) (b := 3) (e7.symm.trans c_19) (by decide) (by decide) (hI.ob ho).1
        omega
    · rw [o_thg hk] at q1
      refine lv_astore (lv' := [(5, .ref (ad h)), (0, .ref x), (1, .int pl), (2, .int i), (3, .long v)]) hx hb dX5_set_5 hl (by decide) rfl (fun ls hl => ?_)
      refine lv_aload hx hb dX5_set_7 (lv_at hl 0 rfl) ?_
      refine lv_iload_n hx hb dX5_set_9 rfl (lv_at hl 3 rfl) ?_
      refine lv_iconst (v := 0) hx hb dX5_set_10 (by decide) ?_
      refine lv_iconst (v := 3) hx hb dX5_set_11 (by decide) ?_
      refine k_si S9 w (c_refusalAt_2 l _ q1 i 0 3) (va_cwS 4 hts gX5_set_X5_refusalAt rfl rfl rfl (by decide +kernel) ⟨Nat.le_of_ble_eq_true rfl, Nat.le_of_ble_eq_true rfl⟩) rfl hl.1 rfl (Nat.le_of_ble_eq_true rfl) dX5_set_12 ⟨Nat.le_of_ble_eq_true rfl, Nat.le_of_ble_eq_true rfl⟩ (fun v7 e7 => ?_)
      rw [← ref1_thg (o := o) (i := i) (lo := 0) (hi := 3) hk] at e7
      refine lv_istore (lv' := [(6, .int v7), (5, .ref (ad h)), (0, .ref x), (1, .int pl), (2, .int i), (3, .long v)]) hx hb dX5_set_15 hl (by decide) rfl (fun ls hl => ?_)
      refine lv_iload hx hb dX5_set_17 (lv_at hl 0 rfl) ?_
      refine lv_if_ne (tgt := 44) hx hb dX5_set_19 (by decide) (fun c_19 => ?_) (fun c_19 => ?_)
      · refine lv_iload hx hb dX5_set_44 (lv_at hl 0 rfl) ?_
        exact ew_i S9 hr hlk w (by rw [show sp_set S pl i v = (v7, S) from by rw [e7] at c_19; rw [e7]; simp [sp_set, i_2, ho, c_19]]; exact ⟨rfl, ad, ar, hR⟩) dX5_set_46 (by decide) (by decide)
      · exact absurd ((ref1_thg hk).symm.trans (e7.symm.trans c_19)) (by decide)

set_option maxHeartbeats 4000000 in
set_option maxRecDepth 100000 in
theorem c_clear (l : Launch) {G : Gt} {ws : va_W} (sz : Nat) {x sh li : Nat} {ad ar : Nat → Nat} {S : St} (hR : RpX G x sh li ad ar S ws) (hI : Inv S) (pl : Int32) : Met l yX5_clear wsX5_clear ({ frames := 1, cells := 0, slots := 0, locals := 21 } : Room) (Pw G [.ref x, .int pl] ws sz) (va_Qi (fun (r : Int32) (u : va_W) => r = (sp_clear S pl).1 ∧ ∃ ad2 ar2, RpX G x sh li ad2 ar2 (sp_clear S pl).2 u) (Bw G ws sz) (va_A ws sz)) 0 0 (va_A ws sz) := by
  refine Met_pw (cc := cX5_clear) (maxL := 2) (ret := (some .int)) (by decide) rfl (Nat.le_of_ble_eq_true rfl) ?_
  intro p e s m below meth c ls hsz S9 hr hlk hnm w hl
  subst hsz
  replace S9 : CallFix p m c cX5_clear 2 s _ wsX5_clear RX5 := S9
  have hx := S9.1
  have hb := S9.2.1
  have hown := S9.2.2.2.1
  have hts := S9.2.2.2.2
  replace hl : lv_has ls 2 [(0, .ref x), (1, .int pl)] := hl
  refine lv_aload_n hx hb dX5_clear_0 rfl (lv_at hl 0 rfl) ?_
  refine lv_iload_n hx hb dX5_clear_1 rfl (lv_at hl 1 rfl) ?_
  refine kx_itemAt S9 w hR hI gX5_clear_X5_itemAt hl.1 (Nat.le_of_ble_eq_true rfl) dX5_clear_2 ⟨Nat.le_of_ble_eq_true rfl, Nat.le_of_ble_eq_true rfl⟩ ⟨Nat.le_of_ble_eq_true rfl, Nat.le_of_ble_eq_true rfl⟩ (fun i_2 => ?_) (fun h o i_2 ho => ?_)
  · refine lv_ifnonnullN hx hb dX5_clear_5 ?_
    refine lv_iconst (v := 0) hx hb dX5_clear_8 (by decide) ?_
    exact ew_i S9 hr hlk w (by rw [show sp_clear S pl = (0, S) from by simp [sp_clear, i_2]]; exact ⟨rfl, ad, ar, hR⟩) dX5_clear_9 (by decide) (by decide)
  · refine lv_ifnonnull (tgt := 10) hx hb dX5_clear_5 (by decide) ?_
    refine lv_aload_n hx hb dX5_clear_10 rfl (lv_at hl 0 rfl) ?_
    refine r_get (ref := "SpanMover") S9 w hR.1 rfl (by decide +kernel) 0 (by decide) (by decide +kernel) (Or.inl rfl) rfl dX5_clear_11 ?_
    refine lv_iload_n hx hb dX5_clear_14 rfl (lv_at hl 1 rfl) ?_
    refine lv_null hx hb dX5_clear_15 ?_
    have hin : vp_in pl 400 := by
      unfold itm at i_2
      by_cases h0 : pl < 0
      · simp [h0] at i_2
      · by_cases h4 : (400 : Int32) ≤ pl
        · simp [h0, h4] at i_2
        · exact in_of h0 h4 (by decide)
    refine r_aast (r := none) S9 w hR.2.1 (fun z hz => by cases hz) hin dX5_clear_16 (fun ws8 H8 lc8 u8 w8 => ?_)
    have hR8 := RpX.sf (f := va_up (s_s S) pl.toNatClampNeg none) w.2.1 hR u8 (by congr 5; funext j; by_cases hj : j = pl.toNatClampNeg <;> simp [va_up, hj])
    refine lv_iconst (v := 1) hx hb dX5_clear_17 (by decide) ?_
    exact ew_i S9 hr hlk w8 (by rw [show sp_clear S pl = (1, s_sh S (va_up (s_s S) pl.toNatClampNeg none)) from by simp [sp_clear, i_2]]; exact ⟨rfl, ad, ar, hR8⟩) dX5_clear_18 (by decide) (by decide)
