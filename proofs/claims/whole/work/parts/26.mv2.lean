theorem ref3_some {S : St} (hI : Inv S) {a b : Int32} (h : ref3 (obj S (itm S a)) (obj S (itm S b)) = 0) : ∃ (x : Nat) (o : Ob) (y : Nat) (o' : Ob), itm S a = some x ∧ itm S b = some y ∧ s_o S x = some o ∧ s_o S y = some o' ∧ ref3 (some o) (some o') = 0 := by
  cases ha : itm S a with
  | none => rw [ha] at h; simp [obj, ref3] at h
  | some x =>
    cases hb : itm S b with
    | none => rw [ha, hb] at h; simp [obj, ref3] at h
    | some y =>
      obtain ⟨o, ho⟩ := itm_o hI ha
      obtain ⟨o', ho'⟩ := itm_o hI hb
      rw [obj_some ha ho, obj_some hb ho'] at h
      exact ⟨x, o, y, o', rfl, rfl, ho, ho', h⟩
theorem fitN_sc {S S' : St} (h : s_o S' = s_o S) {k : Nat} {e : Nat → Option Nat} : ∀ {n i : Nat}, fitN S' k e n i = fitN S k e n i
  | 0, i => rfl
  | n + 1, i => by
    have h1 : fitE S' k (e i) = fitE S k (e i) := by
      unfold fitE obj
      rw [h]
    rw [fitN, fitN, h1, fitN_sc h]
theorem mvR_sc {S S' : St} (h : s_o S' = s_o S) {h9 : Nat} {o o9 : Ob} {i j n : Int32} : mvR S' h9 o o9 i j n = mvR S h9 o o9 i j n := by
  unfold mvR
  rw [h, fitN_sc h]
theorem mvc_0 (c : Nat → Int32) (r m : Int32) : mvc c r m 0 = c 0 := by
  unfold mvc
  split <;> rfl
theorem runF_go {S : St} {P k : Nat} (hk : k < P) (h : (sp_move S (s_l S (k * 5)) (s_l S (k * 5 + 1)) (s_l S (k * 5 + 2)) (s_l S (k * 5 + 3)) (s_l S (k * 5 + 4))).1 = 0) : runF (P - k) k S = runF (P - (k + 1)) (k + 1) (sp_move S (s_l S (k * 5)) (s_l S (k * 5 + 1)) (s_l S (k * 5 + 2)) (s_l S (k * 5 + 3)) (s_l S (k * 5 + 4))).2 := by
  obtain ⟨m, hm⟩ : ∃ m, P - k = m + 1 := ⟨P - k - 1, by omega⟩
  have hm' : P - (k + 1) = m := by omega
  rw [hm, hm', runF, if_pos h]
theorem runF_stop {S : St} {P k : Nat} (hk : k < P) (h : ¬ (sp_move S (s_l S (k * 5)) (s_l S (k * 5 + 1)) (s_l S (k * 5 + 2)) (s_l S (k * 5 + 3)) (s_l S (k * 5 + 4))).1 = 0) : runF (P - k) k S = (k, (sp_move S (s_l S (k * 5)) (s_l S (k * 5 + 1)) (s_l S (k * 5 + 2)) (s_l S (k * 5 + 3)) (s_l S (k * 5 + 4))).2) := by
  obtain ⟨m, hm⟩ : ∃ m, P - k = m + 1 := ⟨P - k - 1, by omega⟩
  rw [hm, runF, if_neg h]
set_option maxHeartbeats 4000000 in
set_option maxRecDepth 100000 in
theorem c_doMove (l : Launch) {G : Gt} {ws : va_W} (sz : Nat) {x sh li : Nat} {ad ar : Nat → Nat} {S : St} (hR : RpX G x sh li ad ar S ws) (hI : Inv S) (a i b j n : Int32) : Met l yX5_doMove wsX5_doMove ({ frames := 3, cells := 0, slots := 0, locals := 92 } : Room) (Pw G [.ref x, .int a, .int i, .int b, .int j, .int n] ws sz) (va_Qi (fun (r : Int32) (u : va_W) => r = (sp_move S a i b j n).1 ∧ ∃ ad2 ar2, RpX G x sh li ad2 ar2 (sp_move S a i b j n).2 u) (Bw G ws sz) (va_A ws sz)) 0 0 (va_A ws sz) := by
  refine Met_pw (cc := cX5_doMove) (maxL := 10) (ret := (some .int)) (by decide) rfl (Nat.le_of_ble_eq_true rfl) ?_
  intro p e s m below meth c ls hsz S9 hr hlk hnm w hl
  subst hsz
  replace S9 : CallFix p m c cX5_doMove 10 s _ wsX5_doMove RX5 := S9
  have hx := S9.1
  have hb := S9.2.1
  have hown := S9.2.2.2.1
  have hts := S9.2.2.2.2
  replace hl : lv_has ls 10 [(0, .ref x), (1, .int a), (2, .int i), (3, .int b), (4, .int j), (5, .int n)] := hl
  refine lv_aload_n hx hb dX5_doMove_0 rfl (lv_at hl 0 rfl) ?_
  refine lv_iload_n hx hb dX5_doMove_1 rfl (lv_at hl 1 rfl) ?_
  refine k_vq S9 w (c_itemAt l _ hR a) hR.1 rfl (cwV 1 hts gX5_doMove_X5_itemAt rfl rfl rfl (by decide +kernel) ⟨Nat.le_of_ble_eq_true rfl, Nat.le_of_ble_eq_true rfl⟩) rfl hl.1 rfl (Nat.le_of_ble_eq_true rfl) dX5_doMove_2 ⟨Nat.le_of_ble_eq_true rfl, Nat.le_of_ble_eq_true rfl⟩ (fun r9 e9 => ?_)
  subst e9
  refine lq_astore (lv' := [(6, va_rf ((itm S a).map ad)), (0, .ref x), (1, .int a), (2, .int i), (3, .int b), (4, .int j), (5, .int n)]) hx hb dX5_doMove_5 hl (by decide) rfl (fun ls hl => ?_)
  refine lv_aload_n hx hb dX5_doMove_7 rfl (lv_at hl 1 rfl) ?_
  refine lv_iload_n hx hb dX5_doMove_8 rfl (lv_at hl 4 rfl) ?_
  refine k_vq S9 w (c_itemAt l _ hR b) hR.1 rfl (cwV 1 hts gX5_doMove_X5_itemAt rfl rfl rfl (by decide +kernel) ⟨Nat.le_of_ble_eq_true rfl, Nat.le_of_ble_eq_true rfl⟩) rfl hl.1 rfl (Nat.le_of_ble_eq_true rfl) dX5_doMove_9 ⟨Nat.le_of_ble_eq_true rfl, Nat.le_of_ble_eq_true rfl⟩ (fun r9 e9 => ?_)
  subst e9
  refine lq_astore (lv' := [(7, va_rf ((itm S b).map ad)), (6, va_rf ((itm S a).map ad)), (0, .ref x), (1, .int a), (2, .int i), (3, .int b), (4, .int j), (5, .int n)]) hx hb dX5_doMove_12 hl (by decide) (by simp [List.filter, va_rf_cat]) (fun ls hl => ?_)
  refine lv_aload_n hx hb dX5_doMove_14 rfl (lv_at hl 2 rfl) ?_
  refine lv_iconst (v := 0) hx hb dX5_doMove_15 (by decide) ?_
  refine r_put (ref := "SpanMover") S9 w hR.1 rfl (by decide +kernel) tyX5_ok nmX5 5 (by decide) (by decide +kernel) (Or.inl rfl) rfl rfl rfl (Nat.le_of_ble_eq_true rfl) dX5_doMove_16 (fun ws8 H8 lc8 u8 w8 => ?_)
  have hR8 := RpX.sc w.2.1 hR u8 (oX_set sh li (s_c S) 3 (by decide) 0)
  replace hR8 : RpX G x sh li ad ar (s_u S, s_o S, s_s S, s_l S, upd (s_c S) 3 0) ws8 := hR8
  have hx8 : hp ws8 x (.inr (3, [.ref sh, .ref li, .int (s_c S 0), .int (s_c S 1), .int (s_c S 2), .int (0 : Int32), .int (s_c S 4), .int (s_c S 5), .int (s_c S 6)])) := hR8.1
  refine lv_aload_n hx hb dX5_doMove_19 rfl (lv_at hl 2 rfl) ?_
  refine lq_aload hx hb dX5_doMove_20 (lv_at hl 1 rfl) ?_
  refine lq_aload hx hb dX5_doMove_22 (lv_at hl 0 rfl) ?_
  refine k_si S9 w8 (u_refusalOfRows l _ hR8 (hI.sc _ rfl rfl) (itm S a) (itm S b) (hI.it a) (hI.it b)) (va_cwS 2 hts gX5_doMove_X5_refusalOfRows rfl rfl rfl (by decide +kernel) ⟨Nat.le_of_ble_eq_true rfl, Nat.le_of_ble_eq_true rfl⟩) rfl hl.1 rfl (Nat.le_of_ble_eq_true rfl) dX5_doMove_24 ⟨Nat.le_of_ble_eq_true rfl, Nat.le_of_ble_eq_true rfl⟩ (fun v7 e7 => ?_)
  replace e7 : v7 = ref3 (obj S (itm S a)) (obj S (itm S b)) := e7
  refine r_put (ref := "SpanMover") S9 w8 hR8.1 rfl (by decide +kernel) tyX5_ok nmX5 6 (by decide) (by decide +kernel) (Or.inl rfl) rfl rfl rfl (Nat.le_of_ble_eq_true rfl) dX5_doMove_27 (fun ws9 H9 lc9 u9 w9 => ?_)
  have hR9 := RpX.sc w8.2.1 hR8 u9 (oX_set sh li (upd (s_c S) 3 0) 4 (by decide) v7)
  replace hR9 : RpX G x sh li ad ar (s_u S, s_o S, s_s S, s_l S, upd (upd (s_c S) 3 0) 4 v7) ws9 := hR9
  have hx9 : hp ws9 x (.inr (3, [.ref sh, .ref li, .int (s_c S 0), .int (s_c S 1), .int (s_c S 2), .int (0 : Int32), .int v7, .int (s_c S 5), .int (s_c S 6)])) := hR9.1
  refine lv_aload_n hx hb dX5_doMove_30 rfl (lv_at hl 2 rfl) ?_
  refine r_get (ref := "SpanMover") S9 w9 hx9 rfl (by decide +kernel) 6 (by decide) (by decide +kernel) (Or.inl rfl) rfl dX5_doMove_31 ?_
  refine lv_if_ne (tgt := 84) hx hb dX5_doMove_34 (by decide) (fun c_34 => ?_) (fun c_34 => ?_)
  · refine lv_aload_n hx hb dX5_doMove_84 rfl (lv_at hl 2 rfl) ?_
    refine r_get (ref := "SpanMover") S9 w9 hx9 rfl (by decide +kernel) 6 (by decide) (by decide +kernel) (Or.inl rfl) rfl dX5_doMove_85 ?_
    refine lv_if_ne (tgt := 104) hx hb dX5_doMove_88 (by decide) (fun c_88 => ?_) (fun c_88 => absurd c_88 c_34)
    refine lv_aload_n hx hb dX5_doMove_104 rfl (lv_at hl 2 rfl) ?_
    refine lv_dup hx hb dX5_doMove_105 rfl ?_
    refine r_get (ref := "SpanMover") S9 w9 hx9 rfl (by decide +kernel) 8 (by decide) (by decide +kernel) (Or.inl rfl) rfl dX5_doMove_106 ?_
    refine lv_iconst (v := 1) hx hb dX5_doMove_109 (by decide) ?_
    refine lv_iadd hx hb dX5_doMove_110 ?_
    refine lv_topi (fun v1 ev1 => ?_)
    refine r_put (ref := "SpanMover") S9 w9 hR9.1 rfl (by decide +kernel) tyX5_ok nmX5 8 (by decide) (by decide +kernel) (Or.inl rfl) rfl rfl rfl (Nat.le_of_ble_eq_true rfl) dX5_doMove_111 (fun ws10 H10 lc10 u10 w10 => ?_)
    have hR10 := RpX.sc w9.2.1 hR9 u10 (oX_set sh li (upd (upd (s_c S) 3 0) 4 v7) 6 (by decide) v1)
    replace hR10 : RpX G x sh li ad ar (s_u S, s_o S, s_s S, s_l S, upd (upd (upd (s_c S) 3 0) 4 v7) 6 v1) ws10 := hR10
    have hx10 : hp ws10 x (.inr (3, [.ref sh, .ref li, .int (s_c S 0), .int (s_c S 1), .int (s_c S 2), .int (0 : Int32), .int v7, .int (s_c S 5), .int v1])) := hR10.1
    refine lv_aload_n hx hb dX5_doMove_114 rfl (lv_at hl 2 rfl) ?_
    refine r_get (ref := "SpanMover") S9 w10 hx10 rfl (by decide +kernel) 6 (by decide) (by decide +kernel) (Or.inl rfl) rfl dX5_doMove_115 ?_
    exact ew_i S9 hr hlk w10 (by have hM := mv_no (S := S) (a := a) (i := i) (b := b) (j := j) (n := n) (by rw [← e7]; exact c_34) hI; rw [← e7] at hM; rw [show sp_move S a i b j n = (v7, (s_u S, s_o S, s_s S, s_l S, upd (upd (upd (s_c S) 3 0) 4 v7) 6 v1)) from by simp only [sp_move, hM, mvc, if_neg c_34, ev1]]; exact ⟨rfl, ad, ar, hR10⟩) dX5_doMove_118 (by decide) (by decide)
  · obtain ⟨h, o, h9, o9, ia, ib, ho, ho9, h3⟩ := ref3_some hI (e7.symm.trans c_34)
    rw [ia, ib] at hl
    obtain ⟨k6, k9, hkk⟩ := ref3_zero h3
    have hM := mv_ok (i := i) (j := j) (n := n) ia ib ho ho9 h3
    obtain ⟨dk, kd, q1, q2, q3, q4⟩ := hR9.2.2.2.1 h o ho
    obtain ⟨dk9, kd9, p1, p2, p3, p4⟩ := hR9.2.2.2.1 h9 o9 ho9
    replace hl : lv_has ls 10 [(7, .ref (ad h9)), (6, .ref (ad h)), (0, .ref x), (1, .int a), (2, .int i), (3, .int b), (4, .int j), (5, .int n)] := hl
    rcases (show (o_k o ≤ 3 ∧ o_k o9 ≤ 3) ∨ (4 ≤ o_k o ∧ 4 ≤ o_k o9) by omega) with ⟨hk, hk9⟩ | ⟨hk, hk9⟩
    · rw [o_num hk] at q1
      rw [o_num hk9] at p1
      refine lv_aload hx hb dX5_doMove_37 (lv_at hl 1 rfl) ?_
      refine r_inst S9 w9 q1 (by decide) 3 (by decide) (by decide +kernel) (v := 1) rfl dX5_doMove_39 ?_
      refine lv_if_eq (tgt := 84) hx hb dX5_doMove_42 (by decide) (fun c_42 => absurd c_42 (by decide)) (fun c_42 => ?_)
      refine lv_aload hx hb dX5_doMove_45 (lv_at hl 1 rfl) ?_
      refine r_cast S9 w9 q1 (by decide) 3 (by decide) rfl (by decide +kernel) dX5_doMove_47 ?_
      refine lv_astore (lv' := [(8, .ref (ad h)), (7, .ref (ad h9)), (6, .ref (ad h)), (0, .ref x), (1, .int a), (2, .int i), (3, .int b), (4, .int j), (5, .int n)]) hx hb dX5_doMove_50 hl (by decide) rfl (fun ls hl => ?_)
      refine lv_aload hx hb dX5_doMove_52 (lv_at hl 1 rfl) ?_
      refine r_inst S9 w9 p1 (by decide) 3 (by decide) (by decide +kernel) (v := 1) rfl dX5_doMove_54 ?_
      refine lv_if_eq (tgt := 84) hx hb dX5_doMove_57 (by decide) (fun c_57 => absurd c_57 (by decide)) (fun c_57 => ?_)
      refine lv_aload hx hb dX5_doMove_60 (lv_at hl 1 rfl) ?_
      refine r_cast S9 w9 p1 (by decide) 3 (by decide) rfl (by decide +kernel) dX5_doMove_62 ?_
      refine lv_astore (lv' := [(9, .ref (ad h9)), (8, .ref (ad h)), (7, .ref (ad h9)), (6, .ref (ad h)), (0, .ref x), (1, .int a), (2, .int i), (3, .int b), (4, .int j), (5, .int n)]) hx hb dX5_doMove_65 hl (by decide) rfl (fun ls hl => ?_)
      refine lv_aload_n hx hb dX5_doMove_67 rfl (lv_at hl 4 rfl) ?_
      refine lv_aload_n hx hb dX5_doMove_68 rfl (lv_at hl 4 rfl) ?_
      refine lv_aload hx hb dX5_doMove_69 (lv_at hl 1 rfl) ?_
      refine lv_iload_n hx hb dX5_doMove_71 rfl (lv_at hl 6 rfl) ?_
      refine lv_aload hx hb dX5_doMove_72 (lv_at hl 0 rfl) ?_
      refine lv_iload hx hb dX5_doMove_74 (lv_at hl 8 rfl) ?_
      refine lv_iload hx hb dX5_doMove_76 (lv_at hl 9 rfl) ?_
      refine kw_vi S9 w9 (c_moveSpan_N l _ hR9 (hI.sc _ rfl rfl) ho ho9 hk hk9 rfl i j n) hx9 rfl (cwV 5 hts gX5_doMove_X5_moveSpan rfl rfl rfl (by decide +kernel) ⟨Nat.le_of_ble_eq_true rfl, Nat.le_of_ble_eq_true rfl⟩) rfl hl.1 rfl (Nat.le_of_ble_eq_true rfl) dX5_doMove_78 ⟨Nat.le_of_ble_eq_true rfl, Nat.le_of_ble_eq_true rfl⟩ (fun v12 u12 H12 lc12 p12 w12 => ?_)
      rw [mvR_sc (S := S) (S' := (s_u S, s_o S, s_s S, s_l S, upd (upd (s_c S) 3 0) 4 v7)) rfl] at p12
      replace p12 : v12 = (mvR S h9 o o9 i j n).1 ∧ RpX G x sh li ad ar (s_u S, (mvR S h9 o o9 i j n).2.2, s_s S, s_l S, upd (upd (upd (s_c S) 3 0) 4 v7) 3 (mvR S h9 o o9 i j n).2.1) u12 := p12
      obtain ⟨e12, hR12⟩ := p12
      refine r_put (ref := "SpanMover") S9 w12 hR12.1 rfl (by decide +kernel) tyX5_ok nmX5 6 (by decide) (by decide +kernel) (Or.inl rfl) rfl rfl rfl (Nat.le_of_ble_eq_true rfl) dX5_doMove_81 (fun ws21 H21 lc21 u21 w21 => ?_)
      have hR21 := RpX.sc w12.2.1 hR12 u21 (oX_set sh li (upd (upd (upd (s_c S) 3 0) 4 v7) 3 (mvR S h9 o o9 i j n).2.1) 4 (by decide) v12)
      replace hR21 : RpX G x sh li ad ar (s_u S, (mvR S h9 o o9 i j n).2.2, s_s S, s_l S, upd (upd (upd (upd (s_c S) 3 0) 4 v7) 3 (mvR S h9 o o9 i j n).2.1) 4 v12) ws21 := hR21
      have hx21 : hp ws21 x (.inr (3, [.ref sh, .ref li, .int (s_c S 0), .int (s_c S 1), .int (s_c S 2), .int ((mvR S h9 o o9 i j n).2.1), .int v12, .int (s_c S 5), .int (s_c S 6)])) := hR21.1
      refine lv_aload_n hx hb dX5_doMove_84 rfl (lv_at hl 4 rfl) ?_
      refine r_get (ref := "SpanMover") S9 w21 hx21 rfl (by decide +kernel) 6 (by decide) (by decide +kernel) (Or.inl rfl) rfl dX5_doMove_85 ?_
      refine lv_if_ne (tgt := 104) hx hb dX5_doMove_88 (by decide) (fun c_88 => ?_) (fun c_88 => ?_)
      · refine lv_aload_n hx hb dX5_doMove_104 rfl (lv_at hl 4 rfl) ?_
        refine lv_dup hx hb dX5_doMove_105 rfl ?_
        refine r_get (ref := "SpanMover") S9 w21 hx21 rfl (by decide +kernel) 8 (by decide) (by decide +kernel) (Or.inl rfl) rfl dX5_doMove_106 ?_
        refine lv_iconst (v := 1) hx hb dX5_doMove_109 (by decide) ?_
        refine lv_iadd hx hb dX5_doMove_110 ?_
        refine lv_topi (fun v2 ev2 => ?_)
        refine r_put (ref := "SpanMover") S9 w21 hR21.1 rfl (by decide +kernel) tyX5_ok nmX5 8 (by decide) (by decide +kernel) (Or.inl rfl) rfl rfl rfl (Nat.le_of_ble_eq_true rfl) dX5_doMove_111 (fun ws22 H22 lc22 u22 w22 => ?_)
        have hR22 := RpX.sc w21.2.1 hR21 u22 (oX_set sh li (upd (upd (upd (upd (s_c S) 3 0) 4 v7) 3 (mvR S h9 o o9 i j n).2.1) 4 v12) 6 (by decide) v2)
        replace hR22 : RpX G x sh li ad ar (s_u S, (mvR S h9 o o9 i j n).2.2, s_s S, s_l S, upd (upd (upd (upd (upd (s_c S) 3 0) 4 v7) 3 (mvR S h9 o o9 i j n).2.1) 4 v12) 6 v2) ws22 := hR22
        have hx22 : hp ws22 x (.inr (3, [.ref sh, .ref li, .int (s_c S 0), .int (s_c S 1), .int (s_c S 2), .int ((mvR S h9 o o9 i j n).2.1), .int v12, .int (s_c S 5), .int v2])) := hR22.1
        refine lv_aload_n hx hb dX5_doMove_114 rfl (lv_at hl 4 rfl) ?_
        refine r_get (ref := "SpanMover") S9 w22 hx22 rfl (by decide +kernel) 6 (by decide) (by decide +kernel) (Or.inl rfl) rfl dX5_doMove_115 ?_
        exact ew_i S9 hr hlk w22 (by rw [show sp_move S a i b j n = (v12, (s_u S, (mvR S h9 o o9 i j n).2.2, s_s S, s_l S, upd (upd (upd (upd (upd (s_c S) 3 0) 4 v7) 3 (mvR S h9 o o9 i j n).2.1) 4 v12) 6 v2)) from by simp only [sp_move, hM, mvc, ← e12, if_neg c_88, ev2, upd_43]]; exact ⟨rfl, ad, ar, hR22⟩) dX5_doMove_118 (by decide) (by decide)
      · refine lv_aload_n hx hb dX5_doMove_91 rfl (lv_at hl 4 rfl) ?_
        refine lv_dup hx hb dX5_doMove_92 rfl ?_
        refine r_get (ref := "SpanMover") S9 w21 hx21 rfl (by decide +kernel) 7 (by decide) (by decide +kernel) (Or.inl rfl) rfl dX5_doMove_93 ?_
        refine lv_iconst (v := 1) hx hb dX5_doMove_96 (by decide) ?_
        refine lv_iadd hx hb dX5_doMove_97 ?_
        refine lv_topi (fun v3 ev3 => ?_)
        refine r_put (ref := "SpanMover") S9 w21 hR21.1 rfl (by decide +kernel) tyX5_ok nmX5 7 (by decide) (by decide +kernel) (Or.inl rfl) rfl rfl rfl (Nat.le_of_ble_eq_true rfl) dX5_doMove_98 (fun ws22 H22 lc22 u22 w22 => ?_)
        have hR22 := RpX.sc w21.2.1 hR21 u22 (oX_set sh li (upd (upd (upd (upd (s_c S) 3 0) 4 v7) 3 (mvR S h9 o o9 i j n).2.1) 4 v12) 5 (by decide) v3)
        replace hR22 : RpX G x sh li ad ar (s_u S, (mvR S h9 o o9 i j n).2.2, s_s S, s_l S, upd (upd (upd (upd (upd (s_c S) 3 0) 4 v7) 3 (mvR S h9 o o9 i j n).2.1) 4 v12) 5 v3) ws22 := hR22
        have hx22 : hp ws22 x (.inr (3, [.ref sh, .ref li, .int (s_c S 0), .int (s_c S 1), .int (s_c S 2), .int ((mvR S h9 o o9 i j n).2.1), .int v12, .int v3, .int (s_c S 6)])) := hR22.1
        refine lv_goto (tgt := 114) hx hb dX5_doMove_101 (by decide) ?_
        refine lv_aload_n hx hb dX5_doMove_114 rfl (lv_at hl 4 rfl) ?_
        refine r_get (ref := "SpanMover") S9 w22 hx22 rfl (by decide +kernel) 6 (by decide) (by decide +kernel) (Or.inl rfl) rfl dX5_doMove_115 ?_
        exact ew_i S9 hr hlk w22 (by rw [show sp_move S a i b j n = (v12, (s_u S, (mvR S h9 o o9 i j n).2.2, s_s S, s_l S, upd (upd (upd (upd (upd (s_c S) 3 0) 4 v7) 3 (mvR S h9 o o9 i j n).2.1) 4 v12) 5 v3)) from by simp only [sp_move, hM, mvc, ← e12, if_pos c_88, ev3, upd_43]]; exact ⟨rfl, ad, ar, hR22⟩) dX5_doMove_118 (by decide) (by decide)
    · rw [o_obj hk k6] at q1
      rw [o_obj hk9 k9] at p1
      refine lv_aload hx hb dX5_doMove_37 (lv_at hl 1 rfl) ?_
      refine r_inst S9 w9 q1 (by decide) 3 (by decide) (by decide +kernel) (v := 1) rfl dX5_doMove_39 ?_
      refine lv_if_eq (tgt := 84) hx hb dX5_doMove_42 (by decide) (fun c_42 => absurd c_42 (by decide)) (fun c_42 => ?_)
      refine lv_aload hx hb dX5_doMove_45 (lv_at hl 1 rfl) ?_
      refine r_cast S9 w9 q1 (by decide) 3 (by decide) rfl (by decide +kernel) dX5_doMove_47 ?_
      refine lv_astore (lv' := [(8, .ref (ad h)), (7, .ref (ad h9)), (6, .ref (ad h)), (0, .ref x), (1, .int a), (2, .int i), (3, .int b), (4, .int j), (5, .int n)]) hx hb dX5_doMove_50 hl (by decide) rfl (fun ls hl => ?_)
      refine lv_aload hx hb dX5_doMove_52 (lv_at hl 1 rfl) ?_
      refine r_inst S9 w9 p1 (by decide) 3 (by decide) (by decide +kernel) (v := 1) rfl dX5_doMove_54 ?_
      refine lv_if_eq (tgt := 84) hx hb dX5_doMove_57 (by decide) (fun c_57 => absurd c_57 (by decide)) (fun c_57 => ?_)
      refine lv_aload hx hb dX5_doMove_60 (lv_at hl 1 rfl) ?_
      refine r_cast S9 w9 p1 (by decide) 3 (by decide) rfl (by decide +kernel) dX5_doMove_62 ?_
      refine lv_astore (lv' := [(9, .ref (ad h9)), (8, .ref (ad h)), (7, .ref (ad h9)), (6, .ref (ad h)), (0, .ref x), (1, .int a), (2, .int i), (3, .int b), (4, .int j), (5, .int n)]) hx hb dX5_doMove_65 hl (by decide) rfl (fun ls hl => ?_)
      refine lv_aload_n hx hb dX5_doMove_67 rfl (lv_at hl 4 rfl) ?_
      refine lv_aload_n hx hb dX5_doMove_68 rfl (lv_at hl 4 rfl) ?_
      refine lv_aload hx hb dX5_doMove_69 (lv_at hl 1 rfl) ?_
      refine lv_iload_n hx hb dX5_doMove_71 rfl (lv_at hl 6 rfl) ?_
      refine lv_aload hx hb dX5_doMove_72 (lv_at hl 0 rfl) ?_
      refine lv_iload hx hb dX5_doMove_74 (lv_at hl 8 rfl) ?_
      refine lv_iload hx hb dX5_doMove_76 (lv_at hl 9 rfl) ?_
      refine kw_vi S9 w9 (c_moveSpan_O l _ hR9 (hI.sc _ rfl rfl) ho ho9 hk k6 hk9 k9 rfl i j n) hx9 rfl (cwV 5 hts gX5_doMove_X5_moveSpan rfl rfl rfl (by decide +kernel) ⟨Nat.le_of_ble_eq_true rfl, Nat.le_of_ble_eq_true rfl⟩) rfl hl.1 rfl (Nat.le_of_ble_eq_true rfl) dX5_doMove_78 ⟨Nat.le_of_ble_eq_true rfl, Nat.le_of_ble_eq_true rfl⟩ (fun v12 u12 H12 lc12 p12 w12 => ?_)
      rw [mvR_sc (S := S) (S' := (s_u S, s_o S, s_s S, s_l S, upd (upd (s_c S) 3 0) 4 v7)) rfl] at p12
      replace p12 : v12 = (mvR S h9 o o9 i j n).1 ∧ RpX G x sh li ad ar (s_u S, (mvR S h9 o o9 i j n).2.2, s_s S, s_l S, upd (upd (upd (s_c S) 3 0) 4 v7) 3 (mvR S h9 o o9 i j n).2.1) u12 := p12
      obtain ⟨e12, hR12⟩ := p12
      refine r_put (ref := "SpanMover") S9 w12 hR12.1 rfl (by decide +kernel) tyX5_ok nmX5 6 (by decide) (by decide +kernel) (Or.inl rfl) rfl rfl rfl (Nat.le_of_ble_eq_true rfl) dX5_doMove_81 (fun ws21 H21 lc21 u21 w21 => ?_)
      have hR21 := RpX.sc w12.2.1 hR12 u21 (oX_set sh li (upd (upd (upd (s_c S) 3 0) 4 v7) 3 (mvR S h9 o o9 i j n).2.1) 4 (by decide) v12)
      replace hR21 : RpX G x sh li ad ar (s_u S, (mvR S h9 o o9 i j n).2.2, s_s S, s_l S, upd (upd (upd (upd (s_c S) 3 0) 4 v7) 3 (mvR S h9 o o9 i j n).2.1) 4 v12) ws21 := hR21
      have hx21 : hp ws21 x (.inr (3, [.ref sh, .ref li, .int (s_c S 0), .int (s_c S 1), .int (s_c S 2), .int ((mvR S h9 o o9 i j n).2.1), .int v12, .int (s_c S 5), .int (s_c S 6)])) := hR21.1
      refine lv_aload_n hx hb dX5_doMove_84 rfl (lv_at hl 4 rfl) ?_
      refine r_get (ref := "SpanMover") S9 w21 hx21 rfl (by decide +kernel) 6 (by decide) (by decide +kernel) (Or.inl rfl) rfl dX5_doMove_85 ?_
      refine lv_if_ne (tgt := 104) hx hb dX5_doMove_88 (by decide) (fun c_88 => ?_) (fun c_88 => ?_)
      · refine lv_aload_n hx hb dX5_doMove_104 rfl (lv_at hl 4 rfl) ?_
        refine lv_dup hx hb dX5_doMove_105 rfl ?_
        refine r_get (ref := "SpanMover") S9 w21 hx21 rfl (by decide +kernel) 8 (by decide) (by decide +kernel) (Or.inl rfl) rfl dX5_doMove_106 ?_
        refine lv_iconst (v := 1) hx hb dX5_doMove_109 (by decide) ?_
        refine lv_iadd hx hb dX5_doMove_110 ?_
        refine lv_topi (fun v4 ev4 => ?_)
        refine r_put (ref := "SpanMover") S9 w21 hR21.1 rfl (by decide +kernel) tyX5_ok nmX5 8 (by decide) (by decide +kernel) (Or.inl rfl) rfl rfl rfl (Nat.le_of_ble_eq_true rfl) dX5_doMove_111 (fun ws22 H22 lc22 u22 w22 => ?_)
        have hR22 := RpX.sc w21.2.1 hR21 u22 (oX_set sh li (upd (upd (upd (upd (s_c S) 3 0) 4 v7) 3 (mvR S h9 o o9 i j n).2.1) 4 v12) 6 (by decide) v4)
        replace hR22 : RpX G x sh li ad ar (s_u S, (mvR S h9 o o9 i j n).2.2, s_s S, s_l S, upd (upd (upd (upd (upd (s_c S) 3 0) 4 v7) 3 (mvR S h9 o o9 i j n).2.1) 4 v12) 6 v4) ws22 := hR22
        have hx22 : hp ws22 x (.inr (3, [.ref sh, .ref li, .int (s_c S 0), .int (s_c S 1), .int (s_c S 2), .int ((mvR S h9 o o9 i j n).2.1), .int v12, .int (s_c S 5), .int v4])) := hR22.1
        refine lv_aload_n hx hb dX5_doMove_114 rfl (lv_at hl 4 rfl) ?_
        refine r_get (ref := "SpanMover") S9 w22 hx22 rfl (by decide +kernel) 6 (by decide) (by decide +kernel) (Or.inl rfl) rfl dX5_doMove_115 ?_
        exact ew_i S9 hr hlk w22 (by rw [show sp_move S a i b j n = (v12, (s_u S, (mvR S h9 o o9 i j n).2.2, s_s S, s_l S, upd (upd (upd (upd (upd (s_c S) 3 0) 4 v7) 3 (mvR S h9 o o9 i j n).2.1) 4 v12) 6 v4)) from by simp only [sp_move, hM, mvc, ← e12, if_neg c_88, ev4, upd_43]]; exact ⟨rfl, ad, ar, hR22⟩) dX5_doMove_118 (by decide) (by decide)
      · refine lv_aload_n hx hb dX5_doMove_91 rfl (lv_at hl 4 rfl) ?_
        refine lv_dup hx hb dX5_doMove_92 rfl ?_
        refine r_get (ref := "SpanMover") S9 w21 hx21 rfl (by decide +kernel) 7 (by decide) (by decide +kernel) (Or.inl rfl) rfl dX5_doMove_93 ?_
        refine lv_iconst (v := 1) hx hb dX5_doMove_96 (by decide) ?_
        refine lv_iadd hx hb dX5_doMove_97 ?_
        refine lv_topi (fun v5 ev5 => ?_)
        refine r_put (ref := "SpanMover") S9 w21 hR21.1 rfl (by decide +kernel) tyX5_ok nmX5 7 (by decide) (by decide +kernel) (Or.inl rfl) rfl rfl rfl (Nat.le_of_ble_eq_true rfl) dX5_doMove_98 (fun ws22 H22 lc22 u22 w22 => ?_)
        have hR22 := RpX.sc w21.2.1 hR21 u22 (oX_set sh li (upd (upd (upd (upd (s_c S) 3 0) 4 v7) 3 (mvR S h9 o o9 i j n).2.1) 4 v12) 5 (by decide) v5)
        replace hR22 : RpX G x sh li ad ar (s_u S, (mvR S h9 o o9 i j n).2.2, s_s S, s_l S, upd (upd (upd (upd (upd (s_c S) 3 0) 4 v7) 3 (mvR S h9 o o9 i j n).2.1) 4 v12) 5 v5) ws22 := hR22
        have hx22 : hp ws22 x (.inr (3, [.ref sh, .ref li, .int (s_c S 0), .int (s_c S 1), .int (s_c S 2), .int ((mvR S h9 o o9 i j n).2.1), .int v12, .int v5, .int (s_c S 6)])) := hR22.1
        refine lv_goto (tgt := 114) hx hb dX5_doMove_101 (by decide) ?_
        refine lv_aload_n hx hb dX5_doMove_114 rfl (lv_at hl 4 rfl) ?_
        refine r_get (ref := "SpanMover") S9 w22 hx22 rfl (by decide +kernel) 6 (by decide) (by decide +kernel) (Or.inl rfl) rfl dX5_doMove_115 ?_
        exact ew_i S9 hr hlk w22 (by rw [show sp_move S a i b j n = (v12, (s_u S, (mvR S h9 o o9 i j n).2.2, s_s S, s_l S, upd (upd (upd (upd (upd (s_c S) 3 0) 4 v7) 3 (mvR S h9 o o9 i j n).2.1) 4 v12) 5 v5)) from by simp only [sp_move, hM, mvc, ← e12, if_pos c_88, ev5, upd_43]]; exact ⟨rfl, ad, ar, hR22⟩) dX5_doMove_118 (by decide) (by decide)

set_option maxHeartbeats 4000000 in
set_option maxRecDepth 100000 in
theorem c_move (l : Launch) {G : Gt} {ws : va_W} (sz : Nat) {x sh li : Nat} {ad ar : Nat → Nat} {S : St} (hR : RpX G x sh li ad ar S ws) (hI : Inv S) (a i b j n : Int32) : Met l yX5_move wsX5_move ({ frames := 4, cells := 0, slots := 0, locals := 121 } : Room) (Pw G [.ref x, .int a, .int i, .int b, .int j, .int n] ws sz) (va_Qi (fun (r : Int32) (u : va_W) => r = (sp_move S a i b j n).1 ∧ ∃ ad2 ar2, RpX G x sh li ad2 ar2 (sp_move S a i b j n).2 u) (Bw G ws sz) (va_A ws sz)) 0 0 (va_A ws sz) := by
  refine Met_pw (cc := cX5_move) (maxL := 6) (ret := (some .int)) (by decide) rfl (Nat.le_of_ble_eq_true rfl) ?_
  intro p e s m below meth c ls hsz S9 hr hlk hnm w hl
  subst hsz
  replace S9 : CallFix p m c cX5_move 6 s _ wsX5_move RX5 := S9
  have hx := S9.1
  have hb := S9.2.1
  have hown := S9.2.2.2.1
  have hts := S9.2.2.2.2
  replace hl : lv_has ls 6 [(0, .ref x), (1, .int a), (2, .int i), (3, .int b), (4, .int j), (5, .int n)] := hl
  refine lv_aload_n hx hb dX5_move_0 rfl (lv_at hl 0 rfl) ?_
  refine lv_iload_n hx hb dX5_move_1 rfl (lv_at hl 1 rfl) ?_
  refine lv_iload_n hx hb dX5_move_2 rfl (lv_at hl 2 rfl) ?_
  refine lv_iload_n hx hb dX5_move_3 rfl (lv_at hl 3 rfl) ?_
  refine lv_iload hx hb dX5_move_4 (lv_at hl 4 rfl) ?_
  refine lv_iload hx hb dX5_move_6 (lv_at hl 5 rfl) ?_
  refine kw_vi S9 w (c_doMove l _ hR hI a i b j n) hR.1 rfl (cwV 5 hts gX5_move_X5_doMove rfl rfl rfl (by decide +kernel) ⟨Nat.le_of_ble_eq_true rfl, Nat.le_of_ble_eq_true rfl⟩) rfl hl.1 rfl (Nat.le_of_ble_eq_true rfl) dX5_move_8 ⟨Nat.le_of_ble_eq_true rfl, Nat.le_of_ble_eq_true rfl⟩ (fun v12 u12 H12 lc12 p12 w12 => ?_)
  exact ew_i S9 hr hlk w12 (p12) dX5_move_11 (by decide) (by decide)

set_option maxHeartbeats 4000000 in
set_option maxRecDepth 100000 in
theorem c_doPlanned (l : Launch) {G : Gt} {ws : va_W} (sz : Nat) {x sh li : Nat} {ad ar : Nat → Nat} {S : St} (hR : RpX G x sh li ad ar S ws) (hI : Inv S) (v : Int32) (k : Nat) (hv : v = nI k) (hk : k < 64) : Met l yX5_doPlanned wsX5_doPlanned ({ frames := 4, cells := 0, slots := 0, locals := 121 } : Room) (Pw G [.ref x, .int v] ws sz) (va_Qi (fun (r : Int32) (u : va_W) => r = (sp_move S (s_l S (k * 5)) (s_l S (k * 5 + 1)) (s_l S (k * 5 + 2)) (s_l S (k * 5 + 3)) (s_l S (k * 5 + 4))).1 ∧ ∃ ad2 ar2, RpX G x sh li ad2 ar2 (sp_move S (s_l S (k * 5)) (s_l S (k * 5 + 1)) (s_l S (k * 5 + 2)) (s_l S (k * 5 + 3)) (s_l S (k * 5 + 4))).2 u) (Bw G ws sz) (va_A ws sz)) 0 0 (va_A ws sz) := by
  refine Met_pw (cc := cX5_doPlanned) (maxL := 3) (ret := (some .int)) (by decide) rfl (Nat.le_of_ble_eq_true rfl) ?_
  intro p e s m below meth c ls hsz S9 hr hlk hnm w hl
  subst hsz
  replace S9 : CallFix p m c cX5_doPlanned 3 s _ wsX5_doPlanned RX5 := S9
  have hx := S9.1
  have hb := S9.2.1
  have hown := S9.2.2.2.1
  have hts := S9.2.2.2.2
  replace hl : lv_has ls 3 [(0, .ref x), (1, .int v)] := hl
  refine lv_iload_n hx hb dX5_doPlanned_0 rfl (lv_at hl 1 rfl) ?_
  refine lv_iconst (v := 5) hx hb dX5_doPlanned_1 (by decide) ?_
  refine lv_imul hx hb dX5_doPlanned_2 ?_
  refine lv_topi (fun v1 ev1 => ?_)
  refine lv_istore_n (lv' := [(2, .int v1), (0, .ref x), (1, .int v)]) hx hb dX5_doPlanned_3 rfl hl (by decide) rfl (fun ls hl => ?_)
  refine lv_aload_n hx hb dX5_doPlanned_4 rfl (lv_at hl 1 rfl) ?_
  refine lv_aload_n hx hb dX5_doPlanned_5 rfl (lv_at hl 1 rfl) ?_
  refine r_get (ref := "SpanMover") S9 w hR.1 rfl (by decide +kernel) 1 (by decide) (by decide +kernel) (Or.inl rfl) rfl dX5_doPlanned_6 ?_
  refine lv_iload_n hx hb dX5_doPlanned_9 rfl (lv_at hl 0 rfl) ?_
  refine r_iald S9 w hR.2.2.1 (by rw [show v1 = nI (k * 5) from by rw [ev1, hv]; exact pk_mul k 5]; exact vp_in_nI (by omega) (by decide)) dX5_doPlanned_10 ?_
  refine lv_topi (fun v2 ev2 => ?_)
  refine lv_aload_n hx hb dX5_doPlanned_11 rfl (lv_at hl 1 rfl) ?_
  refine r_get (ref := "SpanMover") S9 w hR.1 rfl (by decide +kernel) 1 (by decide) (by decide +kernel) (Or.inl rfl) rfl dX5_doPlanned_12 ?_
  refine lv_iload_n hx hb dX5_doPlanned_15 rfl (lv_at hl 0 rfl) ?_
  refine lv_iconst (v := 1) hx hb dX5_doPlanned_16 (by decide) ?_
  refine lv_iadd hx hb dX5_doPlanned_17 ?_
  refine lv_topi (fun v3 ev3 => ?_)
  refine r_iald S9 w hR.2.2.1 (by rw [show v3 = nI (k * 5 + 1) from by rw [ev3, ev1, hv]; exact (congrArg (· + 1) (pk_mul k 5)).trans (nI_add (k * 5) 1)]; exact vp_in_nI (by omega) (by decide)) dX5_doPlanned_18 ?_
  refine lv_topi (fun v4 ev4 => ?_)
  refine lv_aload_n hx hb dX5_doPlanned_19 rfl (lv_at hl 1 rfl) ?_
  refine r_get (ref := "SpanMover") S9 w hR.1 rfl (by decide +kernel) 1 (by decide) (by decide +kernel) (Or.inl rfl) rfl dX5_doPlanned_20 ?_
  refine lv_iload_n hx hb dX5_doPlanned_23 rfl (lv_at hl 0 rfl) ?_
  refine lv_iconst (v := 2) hx hb dX5_doPlanned_24 (by decide) ?_
  refine lv_iadd hx hb dX5_doPlanned_25 ?_
  refine lv_topi (fun v5 ev5 => ?_)
  refine r_iald S9 w hR.2.2.1 (by rw [show v5 = nI (k * 5 + 2) from by rw [ev5, ev1, hv]; exact (congrArg (· + 2) (pk_mul k 5)).trans (nI_add (k * 5) 2)]; exact vp_in_nI (by omega) (by decide)) dX5_doPlanned_26 ?_
  refine lv_topi (fun v6 ev6 => ?_)
  refine lv_aload_n hx hb dX5_doPlanned_27 rfl (lv_at hl 1 rfl) ?_
  refine r_get (ref := "SpanMover") S9 w hR.1 rfl (by decide +kernel) 1 (by decide) (by decide +kernel) (Or.inl rfl) rfl dX5_doPlanned_28 ?_
  refine lv_iload_n hx hb dX5_doPlanned_31 rfl (lv_at hl 0 rfl) ?_
  refine lv_iconst (v := 3) hx hb dX5_doPlanned_32 (by decide) ?_
  refine lv_iadd hx hb dX5_doPlanned_33 ?_
  refine lv_topi (fun v7 ev7 => ?_)
  refine r_iald S9 w hR.2.2.1 (by rw [show v7 = nI (k * 5 + 3) from by rw [ev7, ev1, hv]; exact (congrArg (· + 3) (pk_mul k 5)).trans (nI_add (k * 5) 3)]; exact vp_in_nI (by omega) (by decide)) dX5_doPlanned_34 ?_
  refine lv_topi (fun v8 ev8 => ?_)
  refine lv_aload_n hx hb dX5_doPlanned_35 rfl (lv_at hl 1 rfl) ?_
  refine r_get (ref := "SpanMover") S9 w hR.1 rfl (by decide +kernel) 1 (by decide) (by decide +kernel) (Or.inl rfl) rfl dX5_doPlanned_36 ?_
  refine lv_iload_n hx hb dX5_doPlanned_39 rfl (lv_at hl 0 rfl) ?_
  refine lv_iconst (v := 4) hx hb dX5_doPlanned_40 (by decide) ?_
  refine lv_iadd hx hb dX5_doPlanned_41 ?_
  refine lv_topi (fun v9 ev9 => ?_)
  refine r_iald S9 w hR.2.2.1 (by rw [show v9 = nI (k * 5 + 4) from by rw [ev9, ev1, hv]; exact (congrArg (· + 4) (pk_mul k 5)).trans (nI_add (k * 5) 4)]; exact vp_in_nI (by omega) (by decide)) dX5_doPlanned_42 ?_
  refine lv_topi (fun v10 ev10 => ?_)
  refine kw_vi S9 w (c_doMove l _ hR hI v2 v4 v6 v8 v10) hR.1 rfl (cwV 5 hts gX5_doPlanned_X5_doMove rfl rfl rfl (by decide +kernel) ⟨Nat.le_of_ble_eq_true rfl, Nat.le_of_ble_eq_true rfl⟩) rfl hl.1 rfl (Nat.le_of_ble_eq_true rfl) dX5_doPlanned_43 ⟨Nat.le_of_ble_eq_true rfl, Nat.le_of_ble_eq_true rfl⟩ (fun v12 u12 H12 lc12 p12 w12 => ?_)
  exact ew_i S9 hr hlk w12 (by rw [ev2, cl_nI (show v1 = nI (k * 5) from by rw [ev1, hv]; exact pk_mul k 5) (by omega)] at p12; rw [ev4, cl_nI (show v3 = nI (k * 5 + 1) from by rw [ev3, ev1, hv]; exact (congrArg (· + 1) (pk_mul k 5)).trans (nI_add (k * 5) 1)) (by omega)] at p12; rw [ev6, cl_nI (show v5 = nI (k * 5 + 2) from by rw [ev5, ev1, hv]; exact (congrArg (· + 2) (pk_mul k 5)).trans (nI_add (k * 5) 2)) (by omega)] at p12; rw [ev8, cl_nI (show v7 = nI (k * 5 + 3) from by rw [ev7, ev1, hv]; exact (congrArg (· + 3) (pk_mul k 5)).trans (nI_add (k * 5) 3)) (by omega)] at p12; rw [ev10, cl_nI (show v9 = nI (k * 5 + 4) from by rw [ev9, ev1, hv]; exact (congrArg (· + 4) (pk_mul k 5)).trans (nI_add (k * 5) 4)) (by omega)] at p12; exact p12) dX5_doPlanned_46 (by decide) (by decide)

set_option maxHeartbeats 4000000 in
set_option maxRecDepth 100000 in
theorem c_run (l : Launch) {G : Gt} {ws : va_W} (sz : Nat) {x sh li : Nat} {ad ar : Nat → Nat} {S : St} (hR : RpX G x sh li ad ar S ws) (hI : Inv S) : Met l yX5_run wsX5_run ({ frames := 5, cells := 0, slots := 0, locals := 143 } : Room) (Pw G [.ref x] ws sz) (va_Qi (fun (r : Int32) (u : va_W) => r = (sp_run S).1 ∧ ∃ ad2 ar2, RpX G x sh li ad2 ar2 (sp_run S).2 u) (Bw G ws sz) (va_A ws sz)) 0 0 (va_A ws sz) := by
  refine Met_pw (cc := cX5_run) (maxL := 2) (ret := (some .int)) (by decide) rfl (Nat.le_of_ble_eq_true rfl) ?_
  intro p e s m below meth c ls hsz S9 hr hlk hnm w hl
  subst hsz
  replace S9 : CallFix p m c cX5_run 2 s _ wsX5_run RX5 := S9
  have hx := S9.1
  have hb := S9.2.1
  have hown := S9.2.2.2.1
  have hts := S9.2.2.2.2
  replace hl : lv_has ls 2 [(0, .ref x)] := hl
  refine lv_iconst (v := 0) hx hb dX5_run_0 (by decide) ?_
  refine lv_istore_n (lv' := [(1, .int 0), (0, .ref x)]) hx hb dX5_run_1 rfl hl (by decide) rfl (fun ls hl => ?_)
  obtain ⟨P, hP, hP0⟩ := hI.2.2.1
  obtain ⟨k, S7, ad7, ar7, ws7, H7, lc7, hk, hv, hI7, hc7, hr7, hR7, w7, eH, eL⟩ : ∃ (k : Nat) (S7 : St) (ad7 ar7 : Nat → Nat) (ws7 : va_W) (H7 : Heap) (lc7 : List Loc), k ≤ P ∧ (0 : Int32) = nI k ∧ Inv S7 ∧ s_c S7 0 = nI P ∧ runF P 0 S = runF (P - k) k S7 ∧ RpX G x sh li ad7 ar7 S7 ws7 ∧ Wd G (va_A ws s.heap.size) s ws7 H7 lc7 ∧ s.heap = H7 ∧ [] = lc7 := ⟨0, S, ad, ar, ws, _, _, by omega, rfl, hI, hP0, rfl, hR, w, rfl, rfl⟩
  refine W_at eH eL ?_
  clear eH eL
  generalize (0 : Int32) = v at hl hv
  obtain ⟨t, ht⟩ : ∃ t, P - k < t := ⟨_, Nat.lt_succ_self _⟩
  induction t generalizing k v ls S7 ad7 ar7 ws7 H7 lc7 with
  | zero => exact absurd ht (Nat.not_lt_zero _)
  | succ t ih =>
    refine lv_iload_n hx hb dX5_run_2 rfl (lv_at hl 0 rfl) ?_
    refine lv_aload_n hx hb dX5_run_3 rfl (lv_at hl 1 rfl) ?_
    refine r_get (ref := "SpanMover") S9 w7 hR7.1 rfl (by decide +kernel) 2 (by decide) (by decide +kernel) (Or.inl rfl) rfl dX5_run_4 ?_
    refine lv_icmp_ge (tgt := 24) hx hb dX5_run_7 (by decide) (fun c_7 => ?_) (fun c_7 => ?_)
    · refine lv_aload_n hx hb dX5_run_24 rfl (lv_at hl 1 rfl) ?_
      refine lv_iconst (v := 0) hx hb dX5_run_25 (by decide) ?_
      have hend : runF P 0 S = (k, S7) := by
        rw [hc7] at c_7
        have h4 := ge_nI hv hk (by omega) c_7
        subst h4
        rw [hr7, Nat.sub_self]
        rfl
      refine r_put (ref := "SpanMover") S9 w7 hR7.1 rfl (by decide +kernel) tyX5_ok nmX5 2 (by decide) (by decide +kernel) (Or.inl rfl) rfl rfl rfl (Nat.le_of_ble_eq_true rfl) dX5_run_26 (fun ws9 H9 lc9 u9 w9 => ?_)
      have hR9 := RpX.sc w7.2.1 hR7 u9 (oX_set sh li (s_c S7) 0 (by decide) 0)
      refine lv_iload_n hx hb dX5_run_29 rfl (lv_at hl 0 rfl) ?_
      exact ew_i S9 hr hlk w9 (by unfold sp_run; rw [cl_nI hP0 (by omega), hend]; exact ⟨hv, _, _, hR9⟩) dX5_run_30 (by decide) (by decide)
    · refine lv_aload_n hx hb dX5_run_10 rfl (lv_at hl 1 rfl) ?_
      refine lv_iload_n hx hb dX5_run_11 rfl (lv_at hl 0 rfl) ?_
      have hk4 : k < P := by rw [hc7] at c_7; exact nge_nI hv hk (by omega) c_7
      refine kw_vi S9 w7 (c_doPlanned l _ hR7 hI7 v k hv (by omega)) hR7.1 rfl (cwV 1 hts gX5_run_X5_doPlanned rfl rfl rfl (by decide +kernel) ⟨Nat.le_of_ble_eq_true rfl, Nat.le_of_ble_eq_true rfl⟩) rfl hl.1 rfl (Nat.le_of_ble_eq_true rfl) dX5_run_12 ⟨Nat.le_of_ble_eq_true rfl, Nat.le_of_ble_eq_true rfl⟩ (fun v12 u12 H12 lc12 p12 w12 => ?_)
      obtain ⟨ad8, ar8, hR12⟩ := p12.2
      refine lv_if_ne (tgt := 24) hx hb dX5_run_15 (by decide) (fun c_15 => ?_) (fun c_15 => ?_)
      · refine lv_aload_n hx hb dX5_run_24 rfl (lv_at hl 1 rfl) ?_
        refine lv_iconst (v := 0) hx hb dX5_run_25 (by decide) ?_
        have hend : runF P 0 S = (k, (sp_move S7 (s_l S7 (k * 5)) (s_l S7 (k * 5 + 1)) (s_l S7 (k * 5 + 2)) (s_l S7 (k * 5 + 3)) (s_l S7 (k * 5 + 4))).2) := by rw [hr7, runF_stop hk4 (fun q => c_15 (p12.1.trans q))]
        refine r_put (ref := "SpanMover") S9 w12 hR12.1 rfl (by decide +kernel) tyX5_ok nmX5 2 (by decide) (by decide +kernel) (Or.inl rfl) rfl rfl rfl (Nat.le_of_ble_eq_true rfl) dX5_run_26 (fun ws9 H9 lc9 u9 w9 => ?_)
        have hR9 := RpX.sc w12.2.1 hR12 u9 (oX_set sh li (s_c ((sp_move S7 (s_l S7 (k * 5)) (s_l S7 (k * 5 + 1)) (s_l S7 (k * 5 + 2)) (s_l S7 (k * 5 + 3)) (s_l S7 (k * 5 + 4))).2)) 0 (by decide) 0)
        refine lv_iload_n hx hb dX5_run_29 rfl (lv_at hl 0 rfl) ?_
        exact ew_i S9 hr hlk w9 (by unfold sp_run; rw [cl_nI hP0 (by omega), hend]; exact ⟨hv, _, _, hR9⟩) dX5_run_30 (by decide) (by decide)
      · obtain ⟨v1, ev1⟩ : ∃ z : Int32, z = v + 1 := ⟨_, rfl⟩
        refine lv_iinc (v := v1) (lv' := [(1, .int v1), (0, .ref x)]) hx hb dX5_run_18 hl (k := 0) rfl (by rw [ev1]; rfl) (by decide) rfl (fun ls hl => ?_)
        refine lv_goto (tgt := 2) hx hb dX5_run_21 (by decide) ?_
        exact ih (ls := ls) (k := k + 1) (v := v1) (S7 := (sp_move S7 (s_l S7 (k * 5)) (s_l S7 (k * 5 + 1)) (s_l S7 (k * 5 + 2)) (s_l S7 (k * 5 + 3)) (s_l S7 (k * 5 + 4))).2) (ad7 := ad8) (ar7 := ar8) (ws7 := u12) (H7 := H12) (lc7 := lc12) (hk := by omega) (hv := by rw [ev1, hv]; exact nI_1 k) (hI7 := inv_move hI7 _ _ _ _ _) (hc7 := by rw [← hc7]; exact (mvc_0 _ _ _)) (hr7 := by rw [hr7, runF_go hk4 (p12.1.symm.trans c_15)]) (hl := hl) (w7 := w12) (hR7 := hR12) (ht := by omega)
