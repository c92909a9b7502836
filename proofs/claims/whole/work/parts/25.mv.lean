theorem put_kind {S : St} {h h9 : Nat} {o o9 o9b : Ob} (ho : s_o S h = some o) (ho9 : s_o S h9 = some o9) (hk : o_k o9b = o_k o9) : ∃ o2, va_up (s_o S) h9 (some o9b) h = some o2 ∧ o_k o2 = o_k o := by
  by_cases hh : h = h9
  · subst hh
    rw [ho] at ho9
    cases ho9
    exact ⟨o9b, va_up_eq, hk⟩
  · exact ⟨o, by rw [va_up_ne _ _ hh]; exact ho, rfl⟩
theorem map_cpy {ad : Nat → Nat} {f g : Nat → Option Nat} {i j n : Nat} : va_cpy (fun z => (f z).map ad) (fun z => (g z).map ad) i j n = fun z => (va_cpy f g i j n z).map ad := by
  funext z
  unfold va_cpy
  split <;> rfl
set_option maxHeartbeats 4000000 in
set_option maxRecDepth 100000 in
theorem c_takeFittingSpan (l : Launch) {G : Gt} {ws : va_W} (sz : Nat) {x sh li : Nat} {ad ar : Nat → Nat} {S : St} (hR : RpX G x sh li ad ar S ws) (hI : Inv S) {h : Nat} {o : Ob} (ho : s_o S h = some o) {h9 : Nat} {o9 : Ob} (ho9 : s_o S h9 = some o9) (hk : 4 ≤ o_k o) (hm : o_k o ≤ 6) (hk9 : 4 ≤ o_k o9) (hm9 : o_k o9 ≤ 6) (j i n : Nat) (b9 : i + n ≤ o_n o9) (b0 : j + n ≤ o_n o) : Met l yX2_takeFittingSpan wsX2_takeFittingSpan ({ frames := 1, cells := 0, slots := 0, locals := 40 } : Room) (Pw G [.ref (ad h), .int (nI j), .ref (ad h9), .int (nI i), .int (nI n)] ws sz) (va_Qi (fun (r : Int32) (u : va_W) => r = nI (fitN S (o_k o) (o_e o9) n i) ∧ hu ws (ar h) (aT G (o_n o) (va_cpy (fun z => (o_e o9 z).map ad) (fun z => (o_e o z).map ad) i j (fitN S (o_k o) (o_e o9) n i))) u) (Bw G ws sz) (va_A ws sz)) 0 0 (va_A ws sz) := by
  refine Met_pw (cc := cX2_takeFittingSpan) (maxL := 6) (ret := (some .int)) (by decide) rfl (Nat.le_of_ble_eq_true rfl) ?_
  intro p e s m below meth c ls hsz S9 hr hlk hnm w hl
  subst hsz
  replace S9 : CallFix p m c cX2_takeFittingSpan 6 s _ wsX2_takeFittingSpan RX2 := S9
  have hx := S9.1
  have hb := S9.2.1
  have hown := S9.2.2.2.1
  have hts := S9.2.2.2.2
  replace hl : lv_has ls 6 [(0, .ref (ad h)), (1, .int (nI j)), (2, .ref (ad h9)), (3, .int (nI i)), (4, .int (nI n))] := hl
  obtain ⟨dk, kd, q1, q2, q3, q4⟩ := hR.2.2.2.1 h o ho
  obtain ⟨dk9, kd9, p1, p2, p3, p4⟩ := hR.2.2.2.1 h9 o9 ho9
  rw [o_obj hk hm] at q1
  rw [o_obj hk9 hm9] at p1
  have n0 := (hI.ob ho).2
  have n9 := (hI.ob ho9).2
  refine lv_iconst (v := 0) hx hb dX2_takeFittingSpan_0 (by decide) ?_
  refine lv_istore (lv' := [(5, .int 0), (0, .ref (ad h)), (1, .int (nI j)), (2, .ref (ad h9)), (3, .int (nI i)), (4, .int (nI n))]) hx hb dX2_takeFittingSpan_1 hl (by decide) rfl (fun ls hl => ?_)
  obtain ⟨t, ht, hv, hF⟩ : ∃ t : Nat, t ≤ n ∧ (0 : Int32) = nI t ∧ fitN S (o_k o) (o_e o9) n i = t + fitN S (o_k o) (o_e o9) (n - t) (i + t) := ⟨0, by omega, rfl, by simp⟩
  generalize (0 : Int32) = v at hl hv
  obtain ⟨g, hg⟩ : ∃ g, n - t < g := ⟨_, Nat.lt_succ_self _⟩
  induction g generalizing t v ls with
  | zero => exact absurd hg (Nat.not_lt_zero _)
  | succ g ih =>
    refine lv_iload hx hb dX2_takeFittingSpan_3 (lv_at hl 0 rfl) ?_
    refine lv_iload hx hb dX2_takeFittingSpan_5 (lv_at hl 5 rfl) ?_
    refine lv_icmp_ge (tgt := 32) hx hb dX2_takeFittingSpan_7 (by decide) (fun c_7 => ?_) (fun c_7 => ?_)
    · refine lv_aload_n hx hb dX2_takeFittingSpan_32 rfl (lv_at hl 3 rfl) ?_
      refine r_get (ref := "SpanMover$ObjectRow") S9 w p1 rfl (by decide +kernel) 2 (by decide) (by decide +kernel) (Or.inl rfl) rfl dX2_takeFittingSpan_33 ?_
      refine lv_iload_n hx hb dX2_takeFittingSpan_36 rfl (lv_at hl 4 rfl) ?_
      refine lv_aload_n hx hb dX2_takeFittingSpan_37 rfl (lv_at hl 1 rfl) ?_
      refine r_get (ref := "SpanMover$ObjectRow") S9 w q1 rfl (by decide +kernel) 2 (by decide) (by decide +kernel) (Or.inl rfl) rfl dX2_takeFittingSpan_38 ?_
      refine lv_iload_n hx hb dX2_takeFittingSpan_41 rfl (lv_at hl 2 rfl) ?_
      refine lv_iload hx hb dX2_takeFittingSpan_42 (lv_at hl 0 rfl) ?_
      have hT : fitN S (o_k o) (o_e o9) n i = t := by
        have h4 := ge_nI hv ht (by omega) c_7
        subst h4
        rw [hF, Nat.sub_self]
        rfl
      have y1 : (nI i).toNatClampNeg = i := nI_clamp (by omega)
      have y2 : (nI j).toNatClampNeg = j := nI_clamp (by omega)
      have y3 : v.toNatClampNeg = t := cl_nI hv (by omega)
      refine r_cpyT S9 w hl.1 (by decide +kernel) (p4 hk9 hm9) (q4 hk hm) (nI_pos (by omega)) (nI_pos (by omega)) (by rw [hv]; exact nI_pos (by omega)) (by rw [y1, y3]; omega) (by rw [y2, y3]; omega) ?_ (Nat.le_of_ble_eq_true rfl) (Nat.le_of_ble_eq_true rfl) dX2_takeFittingSpan_44 (fun ws8 H8 lc8 u8 w8 => ?_)
      · intro z y hy
        have hy : (o_e o9 z).map ad = some y := hy
        cases hz : o_e o9 z with
        | none => rw [hz] at hy; cases hy
        | some h5 =>
          rw [hz] at hy
          cases hy
          obtain ⟨o5, ho5⟩ := hI.el ho9 hk9 hm9 z h5 hz
          obtain ⟨dk5, kd5, r1, -⟩ := hR.2.2.2.1 h5 o5 ho5
          exact w.any r1 (o_cl3 _)
      rw [y1, y2, y3] at u8
      refine lv_iload hx hb dX2_takeFittingSpan_47 (lv_at hl 0 rfl) ?_
      exact ew_i S9 hr hlk w8 (⟨by rw [hT]; exact hv, by rw [hT]; exact u8⟩) dX2_takeFittingSpan_49 (by decide) (by decide)
    · refine lv_aload_n hx hb dX2_takeFittingSpan_10 rfl (lv_at hl 1 rfl) ?_
      refine lv_aload_n hx hb dX2_takeFittingSpan_11 rfl (lv_at hl 3 rfl) ?_
      refine r_get (ref := "SpanMover$ObjectRow") S9 w p1 rfl (by decide +kernel) 2 (by decide) (by decide +kernel) (Or.inl rfl) rfl dX2_takeFittingSpan_12 ?_
      refine lv_iload_n hx hb dX2_takeFittingSpan_15 rfl (lv_at hl 4 rfl) ?_
      refine lv_iload hx hb dX2_takeFittingSpan_16 (lv_at hl 0 rfl) ?_
      refine lv_iadd hx hb dX2_takeFittingSpan_18 ?_
      refine lv_topi (fun v1 ev1 => ?_)
      refine r_aald S9 w (p4 hk9 hm9) (by rw [show v1 = nI (i + t) from by rw [ev1, hv]; exact nI_add i t]; exact vp_in_nI (by have := nge_nI hv ht (by omega) c_7; omega) (by omega)) dX2_takeFittingSpan_19 ?_
      refine k_vi S9 w (u_isFitFor l _ hR hI q1 hk hm (o_e o9 v1.toNatClampNeg) (hI.el ho9 hk9 hm9 _)) q1 rfl (cwV 1 hts gX2_takeFittingSpan_X2_isFitFor rfl rfl rfl (by decide +kernel) ⟨Nat.le_of_ble_eq_true rfl, Nat.le_of_ble_eq_true rfl⟩) rfl hl.1 rfl (Nat.le_of_ble_eq_true rfl) dX2_takeFittingSpan_20 ⟨Nat.le_of_ble_eq_true rfl, Nat.le_of_ble_eq_true rfl⟩ (fun v10 e10 => ?_)
      refine lv_if_eq (tgt := 32) hx hb dX2_takeFittingSpan_23 (by decide) (fun c_23 => ?_) (fun c_23 => ?_)
      · refine lv_aload_n hx hb dX2_takeFittingSpan_32 rfl (lv_at hl 3 rfl) ?_
        refine r_get (ref := "SpanMover$ObjectRow") S9 w p1 rfl (by decide +kernel) 2 (by decide) (by decide +kernel) (Or.inl rfl) rfl dX2_takeFittingSpan_33 ?_
        refine lv_iload_n hx hb dX2_takeFittingSpan_36 rfl (lv_at hl 4 rfl) ?_
        refine lv_aload_n hx hb dX2_takeFittingSpan_37 rfl (lv_at hl 1 rfl) ?_
        refine r_get (ref := "SpanMover$ObjectRow") S9 w q1 rfl (by decide +kernel) 2 (by decide) (by decide +kernel) (Or.inl rfl) rfl dX2_takeFittingSpan_38 ?_
        refine lv_iload_n hx hb dX2_takeFittingSpan_41 rfl (lv_at hl 2 rfl) ?_
        refine lv_iload hx hb dX2_takeFittingSpan_42 (lv_at hl 0 rfl) ?_
        have hT : fitN S (o_k o) (o_e o9) n i = t := by
          have ht4 := nge_nI hv ht (by omega) c_7
          have x1 : v1 = nI (i + t) := by rw [ev1, hv]; exact nI_add i t
          rw [e10, cl_nI x1 (by omega)] at c_23
          rw [hF]
          refine fitN_stop ht4 ?_
          cases hf : fitE S (o_k o) (o_e o9 (i + t)) with
          | false => rfl
          | true => simp [hf] at c_23
        have y1 : (nI i).toNatClampNeg = i := nI_clamp (by omega)
        have y2 : (nI j).toNatClampNeg = j := nI_clamp (by omega)
        have y3 : v.toNatClampNeg = t := cl_nI hv (by omega)
        refine r_cpyT S9 w hl.1 (by decide +kernel) (p4 hk9 hm9) (q4 hk hm) (nI_pos (by omega)) (nI_pos (by omega)) (by rw [hv]; exact nI_pos (by omega)) (by rw [y1, y3]; omega) (by rw [y2, y3]; omega) ?_ (Nat.le_of_ble_eq_true rfl) (Nat.le_of_ble_eq_true rfl) dX2_takeFittingSpan_44 (fun ws8 H8 lc8 u8 w8 => ?_)
        · intro z y hy
          have hy : (o_e o9 z).map ad = some y := hy
          cases hz : o_e o9 z with
          | none => rw [hz] at hy; cases hy
          | some h5 =>
            rw [hz] at hy
            cases hy
            obtain ⟨o5, ho5⟩ := hI.el ho9 hk9 hm9 z h5 hz
            obtain ⟨dk5, kd5, r1, -⟩ := hR.2.2.2.1 h5 o5 ho5
            exact w.any r1 (o_cl3 _)
        rw [y1, y2, y3] at u8
        refine lv_iload hx hb dX2_takeFittingSpan_47 (lv_at hl 0 rfl) ?_
        exact ew_i S9 hr hlk w8 (⟨by rw [hT]; exact hv, by rw [hT]; exact u8⟩) dX2_takeFittingSpan_49 (by decide) (by decide)
      · obtain ⟨v2, ev2⟩ : ∃ z : Int32, z = v + 1 := ⟨_, rfl⟩
        refine lv_iinc (v := v2) (lv' := [(5, .int v2), (0, .ref (ad h)), (1, .int (nI j)), (2, .ref (ad h9)), (3, .int (nI i)), (4, .int (nI n))]) hx hb dX2_takeFittingSpan_26 hl (k := 0) rfl (by rw [ev2]; rfl) (by decide) rfl (fun ls hl => ?_)
        refine lv_goto (tgt := 3) hx hb dX2_takeFittingSpan_29 (by decide) ?_
        have ht4 := nge_nI hv ht (by omega) c_7
        have x1 : v1 = nI (i + t) := by rw [ev1, hv]; exact nI_add i t
        rw [e10, cl_nI x1 (by omega)] at c_23
        have hfit : fitE S (o_k o) (o_e o9 (i + t)) = true := by
          by_cases hf : fitE S (o_k o) (o_e o9 (i + t)) = true
          · exact hf
          · simp [hf] at c_23
        exact ih (ls := ls) (t := t + 1) (v := v2) (ht := by omega) (hv := by rw [ev2, hv]; exact nI_1 t) (hF := by rw [hF, fitN_step ht4 hfit]) (hl := hl) (hg := by omega)

set_option maxHeartbeats 4000000 in
set_option maxRecDepth 100000 in
theorem c_moveSpan_N (l : Launch) {G : Gt} {ws : va_W} (sz : Nat) {x sh li : Nat} {ad ar : Nat → Nat} {S : St} (hR : RpX G x sh li ad ar S ws) (hI : Inv S) {h : Nat} {o : Ob} (ho : s_o S h = some o) {h9 : Nat} {o9 : Ob} (ho9 : s_o S h9 = some o9) (hk : o_k o ≤ 3) (hk9 : o_k o9 ≤ 3) (hz : s_c S 3 = 0) (i j n : Int32) : Met l yX5_moveSpan wsX5_moveSpan ({ frames := 2, cells := 0, slots := 0, locals := 65 } : Room) (Pw G [.ref x, .ref (ad h), .int i, .ref (ad h9), .int j, .int n] ws sz) (va_Qi (fun (r : Int32) (u : va_W) => r = (mvR S h9 o o9 i j n).1 ∧ RpX G x sh li ad ar (s_u S, (mvR S h9 o o9 i j n).2.2, s_s S, s_l S, upd (s_c S) 3 (mvR S h9 o o9 i j n).2.1) u) (Bw G ws sz) (va_A ws sz)) 0 0 (va_A ws sz) := by
  refine Met_pw (cc := cX5_moveSpan) (maxL := 8) (ret := (some .int)) (by decide) rfl (Nat.le_of_ble_eq_true rfl) ?_
  intro p e s m below meth c ls hsz S9 hr hlk hnm w hl
  subst hsz
  replace S9 : CallFix p m c cX5_moveSpan 8 s _ wsX5_moveSpan RX5 := S9
  have hx := S9.1
  have hb := S9.2.1
  have hown := S9.2.2.2.1
  have hts := S9.2.2.2.2
  replace hl : lv_has ls 8 [(0, .ref x), (1, .ref (ad h)), (2, .int i), (3, .ref (ad h9)), (4, .int j), (5, .int n)] := hl
  obtain ⟨dk, kd, q1, q2, q3, q4⟩ := hR.2.2.2.1 h o ho
  obtain ⟨dk9, kd9, p1, p2, p3, p4⟩ := hR.2.2.2.1 h9 o9 ho9
  rw [o_num hk] at q1
  rw [o_num hk9] at p1
  have n0 := (hI.ob ho).2
  have n9 := (hI.ob ho9).2
  refine lv_aload_n hx hb dX5_moveSpan_0 rfl (lv_at hl 1 rfl) ?_
  refine lv_iload_n hx hb dX5_moveSpan_1 rfl (lv_at hl 2 rfl) ?_
  refine lv_iload hx hb dX5_moveSpan_2 (lv_at hl 5 rfl) ?_
  refine k_ui S9 w (c_hasSpan_0 l _ q1 (by omega) i n) q1 rfl (va_cwU 2 hts gX5_moveSpan_X3_hasSpan_u152X1 rfl rfl rfl rfl (by decide +kernel) ⟨Nat.le_of_ble_eq_true rfl, Nat.le_of_ble_eq_true rfl⟩) rfl hl.1 rfl (Nat.le_of_ble_eq_true rfl) dX5_moveSpan_4 ⟨Nat.le_of_ble_eq_true rfl, Nat.le_of_ble_eq_true rfl⟩ (fun v7 e7 => ?_)
  refine lv_if_eq (tgt := 21) hx hb dX5_moveSpan_7 (by decide) (fun c_7 => ?_) (fun c_7 => ?_)
  · refine lv_iconst (v := 4) hx hb dX5_moveSpan_21 (by decide) ?_
    exact ew_i S9 hr hlk w (by have s1 : ¬ inS (o_n o) i n := (fun q => by rw [e7, if_pos q] at c_7; exact absurd c_7 (by decide)); rw [show mvR S h9 o o9 i j n = (4, 0, s_o S) from by unfold mvR; rw [if_pos s1]]; exact ⟨rfl, by rw [upd_same hz]; exact hR⟩) dX5_moveSpan_22 (by decide) (by decide)
  · refine lv_aload_n hx hb dX5_moveSpan_10 rfl (lv_at hl 3 rfl) ?_
    refine lv_iload hx hb dX5_moveSpan_11 (lv_at hl 4 rfl) ?_
    refine lv_iload hx hb dX5_moveSpan_13 (lv_at hl 5 rfl) ?_
    refine k_ui S9 w (c_hasSpan_0 l _ p1 (by omega) j n) p1 rfl (va_cwU 2 hts gX5_moveSpan_X3_hasSpan_u152X1 rfl rfl rfl rfl (by decide +kernel) ⟨Nat.le_of_ble_eq_true rfl, Nat.le_of_ble_eq_true rfl⟩) rfl hl.1 rfl (Nat.le_of_ble_eq_true rfl) dX5_moveSpan_15 ⟨Nat.le_of_ble_eq_true rfl, Nat.le_of_ble_eq_true rfl⟩ (fun v8 e8 => ?_)
    refine lv_if_ne (tgt := 23) hx hb dX5_moveSpan_18 (by decide) (fun c_18 => ?_) (fun c_18 => ?_)
    · have s1 : inS (o_n o) i n := by
        rw [e7] at c_7
        by_cases q : inS (o_n o) i n
        · exact q
        · rw [if_neg q] at c_7; exact absurd rfl c_7
      have s2 : inS (o_n o9) j n := by
        rw [e8] at c_18
        by_cases q : inS (o_n o9) j n
        · exact q
        · rw [if_neg q] at c_18; exact absurd rfl c_18
      obtain ⟨i', n', rfl, rfl, b0⟩ := inS_nI s1 n0
      obtain ⟨j', n2, rfl, e2, b9⟩ := inS_nI s2 n9
      have e2 := (nI_eq (by omega) (by omega)).mp e2
      subst e2
      have y1 : (nI i').toNatClampNeg = i' := nI_clamp (by omega)
      have y2 : (nI j').toNatClampNeg = j' := nI_clamp (by omega)
      have y3 : (nI n').toNatClampNeg = n' := nI_clamp (by omega)
      refine lv_aload_n hx hb dX5_moveSpan_23 rfl (lv_at hl 1 rfl) ?_
      refine r_inst S9 w q1 (by decide) 0 (by decide) (by decide +kernel) (v := 1) rfl dX5_moveSpan_24 ?_
      refine lv_if_eq (tgt := 67) hx hb dX5_moveSpan_27 (by decide) (fun c_27 => absurd c_27 (by decide)) (fun c_27 => ?_)
      refine lv_aload_n hx hb dX5_moveSpan_30 rfl (lv_at hl 1 rfl) ?_
      refine r_cast S9 w q1 (by decide) 0 (by decide) rfl (by decide +kernel) dX5_moveSpan_31 ?_
      refine lv_astore (lv' := [(6, .ref (ad h)), (0, .ref x), (1, .ref (ad h)), (2, .int (nI i')), (3, .ref (ad h9)), (4, .int (nI j')), (5, .int (nI n'))]) hx hb dX5_moveSpan_34 hl (by decide) rfl (fun ls hl => ?_)
      refine lv_aload_n hx hb dX5_moveSpan_36 rfl (lv_at hl 4 rfl) ?_
      refine r_inst S9 w p1 (by decide) 0 (by decide) (by decide +kernel) (v := 1) rfl dX5_moveSpan_37 ?_
      refine lv_if_eq (tgt := 67) hx hb dX5_moveSpan_40 (by decide) (fun c_40 => absurd c_40 (by decide)) (fun c_40 => ?_)
      refine lv_aload_n hx hb dX5_moveSpan_43 rfl (lv_at hl 4 rfl) ?_
      refine r_cast S9 w p1 (by decide) 0 (by decide) rfl (by decide +kernel) dX5_moveSpan_44 ?_
      refine lv_astore (lv' := [(7, .ref (ad h9)), (6, .ref (ad h)), (0, .ref x), (1, .ref (ad h)), (2, .int (nI i')), (3, .ref (ad h9)), (4, .int (nI j')), (5, .int (nI n'))]) hx hb dX5_moveSpan_47 hl (by decide) rfl (fun ls hl => ?_)
      refine lv_aload hx hb dX5_moveSpan_49 (lv_at hl 0 rfl) ?_
      refine lv_iload hx hb dX5_moveSpan_51 (lv_at hl 6 rfl) ?_
      refine lv_aload hx hb dX5_moveSpan_53 (lv_at hl 1 rfl) ?_
      refine lv_iload_n hx hb dX5_moveSpan_55 rfl (lv_at hl 4 rfl) ?_
      refine lv_iload hx hb dX5_moveSpan_56 (lv_at hl 7 rfl) ?_
      refine kw_vv S9 w (c_takeSpan l _ p1 (p3 hk9) q1 (q3 hk) (nI j') (nI i') (nI n') (nI_pos (by omega)) (nI_pos (by omega)) (nI_pos (by omega)) (by rw [y1, y3]; omega) (by rw [y2, y3]; omega)) p1 rfl (cwV 4 hts gX5_moveSpan_X1_takeSpan rfl rfl rfl (by decide +kernel) ⟨Nat.le_of_ble_eq_true rfl, Nat.le_of_ble_eq_true rfl⟩) rfl hl.1 rfl (Nat.le_of_ble_eq_true rfl) dX5_moveSpan_58 ⟨Nat.le_of_ble_eq_true rfl, Nat.le_of_ble_eq_true rfl⟩ (fun u8 H8 lc8 p8 w8 => ?_)
      obtain ⟨ws9, g1, g2⟩ := p8
      rw [y1, y2, y3] at g1
      have hR7 := RpX.num w.2.1 hR ho9 hk9 g1 g2
      replace hR7 : RpX G x sh li ad ar (s_u S, va_up (s_o S) h9 (some (o_setf o9 (va_cpy (o_f o) (o_f o9) i' j' n'))), s_s S, s_l S, s_c S) u8 := hR7
      refine lv_aload_n hx hb dX5_moveSpan_61 rfl (lv_at hl 2 rfl) ?_
      refine lv_iload hx hb dX5_moveSpan_62 (lv_at hl 7 rfl) ?_
      refine r_put (ref := "SpanMover") S9 w8 hR7.1 rfl (by decide +kernel) tyX5_ok nmX5 5 (by decide) (by decide +kernel) (Or.inl rfl) rfl rfl rfl (Nat.le_of_ble_eq_true rfl) dX5_moveSpan_64 (fun ws11 H11 lc11 u11 w11 => ?_)
      have hR11 := RpX.sc w8.2.1 hR7 u11 (oX_set sh li (s_c S) 3 (by decide) (nI n'))
      replace hR11 : RpX G x sh li ad ar (s_u S, va_up (s_o S) h9 (some (o_setf o9 (va_cpy (o_f o) (o_f o9) i' j' n'))), s_s S, s_l S, upd (s_c S) 3 (nI n')) ws11 := hR11
      have hx11 : hp ws11 x (.inr (3, [.ref sh, .ref li, .int (s_c S 0), .int (s_c S 1), .int (s_c S 2), .int (nI n'), .int (s_c S 4), .int (s_c S 5), .int (s_c S 6)])) := hR11.1
      refine lv_aload_n hx hb dX5_moveSpan_67 rfl (lv_at hl 3 rfl) ?_
      obtain ⟨o2, ho2, hk2⟩ := put_kind (o9b := o_setf o9 (va_cpy (o_f o) (o_f o9) i' j' n')) ho ho9 rfl
      obtain ⟨dk2, kd2, r1, -⟩ := hR11.2.2.2.1 h o2 ho2
      rw [o_num (o := o2) (by omega)] at r1
      refine r_inst S9 w11 r1 (by decide) 1 (by decide) (by decide +kernel) (v := 0) rfl dX5_moveSpan_68 ?_
      refine lv_if_eq (tgt := 109) hx hb dX5_moveSpan_71 (by decide) (fun c_71 => ?_) (fun c_71 => absurd c_71 (by decide))
      refine lv_aload_n hx hb dX5_moveSpan_109 rfl (lv_at hl 2 rfl) ?_
      refine r_get (ref := "SpanMover") S9 w11 hx11 rfl (by decide +kernel) 5 (by decide) (by decide +kernel) (Or.inl rfl) rfl dX5_moveSpan_110 ?_
      refine lv_iload hx hb dX5_moveSpan_113 (lv_at hl 7 rfl) ?_
      refine lv_icmp_ne (tgt := 122) hx hb dX5_moveSpan_115 (by decide) (fun c_115 => absurd rfl c_115) (fun c_115 => ?_)
      refine lv_iconst (v := 0) hx hb dX5_moveSpan_118 (by decide) ?_
      refine lv_goto (tgt := 123) hx hb dX5_moveSpan_119 (by decide) ?_
      exact ew_i S9 hr hlk w11 (by rw [show mvR S h9 o o9 (nI i') (nI j') (nI n') = (0, nI n', _) from by unfold mvR; rw [if_neg (fun q => q s1), if_neg (fun q => q s2), if_pos hk9]]; exact ⟨rfl, by rw [y1, y2, y3]; exact hR11⟩) dX5_moveSpan_123 (by decide) (by decide)
    · refine lv_iconst (v := 4) hx hb dX5_moveSpan_21 (by decide) ?_
      exact ew_i S9 hr hlk w (by have s2 : ¬ inS (o_n o9) j n := (fun q => by rw [e8, if_pos q] at c_18; exact absurd c_18 (by decide)); rw [show mvR S h9 o o9 i j n = (4, 0, s_o S) from by unfold mvR; by_cases s1 : inS (o_n o) i n; (rw [if_neg (fun q => q s1), if_pos s2]); (rw [if_pos s1])]; exact ⟨rfl, by rw [upd_same hz]; exact hR⟩) dX5_moveSpan_22 (by decide) (by decide)

set_option maxHeartbeats 4000000 in
set_option maxRecDepth 100000 in
theorem c_moveSpan_O (l : Launch) {G : Gt} {ws : va_W} (sz : Nat) {x sh li : Nat} {ad ar : Nat → Nat} {S : St} (hR : RpX G x sh li ad ar S ws) (hI : Inv S) {h : Nat} {o : Ob} (ho : s_o S h = some o) {h9 : Nat} {o9 : Ob} (ho9 : s_o S h9 = some o9) (hk : 4 ≤ o_k o) (hm : o_k o ≤ 6) (hk9 : 4 ≤ o_k o9) (hm9 : o_k o9 ≤ 6) (hz : s_c S 3 = 0) (i j n : Int32) : Met l yX5_moveSpan wsX5_moveSpan ({ frames := 2, cells := 0, slots := 0, locals := 65 } : Room) (Pw G [.ref x, .ref (ad h), .int i, .ref (ad h9), .int j, .int n] ws sz) (va_Qi (fun (r : Int32) (u : va_W) => r = (mvR S h9 o o9 i j n).1 ∧ RpX G x sh li ad ar (s_u S, (mvR S h9 o o9 i j n).2.2, s_s S, s_l S, upd (s_c S) 3 (mvR S h9 o o9 i j n).2.1) u) (Bw G ws sz) (va_A ws sz)) 0 0 (va_A ws sz) := by
  refine Met_pw (cc := cX5_moveSpan) (maxL := 8) (ret := (some .int)) (by decide) rfl (Nat.le_of_ble_eq_true rfl) ?_
  intro p e s m below meth c ls hsz S9 hr hlk hnm w hl
  subst hsz
  replace S9 : CallFix p m c cX5_moveSpan 8 s _ wsX5_moveSpan RX5 := S9
  have hx := S9.1
  have hb := S9.2.1
  have hown := S9.2.2.2.1
  have hts := S9.2.2.2.2
  replace hl : lv_has ls 8 [(0, .ref x), (1, .ref (ad h)), (2, .int i), (3, .ref (ad h9)), (4, .int j), (5, .int n)] := hl
  obtain ⟨dk, kd, q1, q2, q3, q4⟩ := hR.2.2.2.1 h o ho
  obtain ⟨dk9, kd9, p1, p2, p3, p4⟩ := hR.2.2.2.1 h9 o9 ho9
  rw [o_obj hk hm] at q1
  rw [o_obj hk9 hm9] at p1
  have n0 := (hI.ob ho).2
  have n9 := (hI.ob ho9).2
  refine lv_aload_n hx hb dX5_moveSpan_0 rfl (lv_at hl 1 rfl) ?_
  refine lv_iload_n hx hb dX5_moveSpan_1 rfl (lv_at hl 2 rfl) ?_
  refine lv_iload hx hb dX5_moveSpan_2 (lv_at hl 5 rfl) ?_
  refine k_ui S9 w (c_hasSpan_1 l _ q1 (by omega) i n) q1 rfl (va_cwU 2 hts gX5_moveSpan_X3_hasSpan_u152X2 rfl rfl rfl rfl (by decide +kernel) ⟨Nat.le_of_ble_eq_true rfl, Nat.le_of_ble_eq_true rfl⟩) rfl hl.1 rfl (Nat.le_of_ble_eq_true rfl) dX5_moveSpan_4 ⟨Nat.le_of_ble_eq_true rfl, Nat.le_of_ble_eq_true rfl⟩ (fun v7 e7 => ?_)
  refine lv_if_eq (tgt := 21) hx hb dX5_moveSpan_7 (by decide) (fun c_7 => ?_) (fun c_7 => ?_)
  · refine lv_iconst (v := 4) hx hb dX5_moveSpan_21 (by decide) ?_
    exact ew_i S9 hr hlk w (by have s1 : ¬ inS (o_n o) i n := (fun q => by rw [e7, if_pos q] at c_7; exact absurd c_7 (by decide)); rw [show mvR S h9 o o9 i j n = (4, 0, s_o S) from by unfold mvR; rw [if_pos s1]]; exact ⟨rfl, by rw [upd_same hz]; exact hR⟩) dX5_moveSpan_22 (by decide) (by decide)
  · refine lv_aload_n hx hb dX5_moveSpan_10 rfl (lv_at hl 3 rfl) ?_
    refine lv_iload hx hb dX5_moveSpan_11 (lv_at hl 4 rfl) ?_
    refine lv_iload hx hb dX5_moveSpan_13 (lv_at hl 5 rfl) ?_
    refine k_ui S9 w (c_hasSpan_1 l _ p1 (by omega) j n) p1 rfl (va_cwU 2 hts gX5_moveSpan_X3_hasSpan_u152X2 rfl rfl rfl rfl (by decide +kernel) ⟨Nat.le_of_ble_eq_true rfl, Nat.le_of_ble_eq_true rfl⟩) rfl hl.1 rfl (Nat.le_of_ble_eq_true rfl) dX5_moveSpan_15 ⟨Nat.le_of_ble_eq_true rfl, Nat.le_of_ble_eq_true rfl⟩ (fun v8 e8 => ?_)
    refine lv_if_ne (tgt := 23) hx hb dX5_moveSpan_18 (by decide) (fun c_18 => ?_) (fun c_18 => ?_)
    · have s1 : inS (o_n o) i n := by
        rw [e7] at c_7
        by_cases q : inS (o_n o) i n
        · exact q
        · rw [if_neg q] at c_7; exact absurd rfl c_7
      have s2 : inS (o_n o9) j n := by
        rw [e8] at c_18
        by_cases q : inS (o_n o9) j n
        · exact q
        · rw [if_neg q] at c_18; exact absurd rfl c_18
      obtain ⟨i', n', rfl, rfl, b0⟩ := inS_nI s1 n0
      obtain ⟨j', n2, rfl, e2, b9⟩ := inS_nI s2 n9
      have e2 := (nI_eq (by omega) (by omega)).mp e2
      subst e2
      have y1 : (nI i').toNatClampNeg = i' := nI_clamp (by omega)
      have y2 : (nI j').toNatClampNeg = j' := nI_clamp (by omega)
      have y3 : (nI n').toNatClampNeg = n' := nI_clamp (by omega)
      refine lv_aload_n hx hb dX5_moveSpan_23 rfl (lv_at hl 1 rfl) ?_
      refine r_inst S9 w q1 (by decide) 0 (by decide) (by decide +kernel) (v := 0) rfl dX5_moveSpan_24 ?_
      refine lv_if_eq (tgt := 67) hx hb dX5_moveSpan_27 (by decide) (fun c_27 => ?_) (fun c_27 => absurd c_27 (by decide))
      refine lv_aload_n hx hb dX5_moveSpan_67 rfl (lv_at hl 1 rfl) ?_
      refine r_inst S9 w q1 (by decide) 1 (by decide) (by decide +kernel) (v := 1) rfl dX5_moveSpan_68 ?_
      refine lv_if_eq (tgt := 109) hx hb dX5_moveSpan_71 (by decide) (fun c_71 => absurd c_71 (by decide)) (fun c_71 => ?_)
      refine lv_aload_n hx hb dX5_moveSpan_74 rfl (lv_at hl 1 rfl) ?_
      refine r_cast S9 w q1 (by decide) 1 (by decide) rfl (by decide +kernel) dX5_moveSpan_75 ?_
      refine lv_astore (lv' := [(6, .ref (ad h)), (0, .ref x), (1, .ref (ad h)), (2, .int (nI i')), (3, .ref (ad h9)), (4, .int (nI j')), (5, .int (nI n'))]) hx hb dX5_moveSpan_78 hl (by decide) rfl (fun ls hl => ?_)
      refine lv_aload_n hx hb dX5_moveSpan_80 rfl (lv_at hl 4 rfl) ?_
      refine r_inst S9 w p1 (by decide) 1 (by decide) (by decide +kernel) (v := 1) rfl dX5_moveSpan_81 ?_
      refine lv_if_eq (tgt := 109) hx hb dX5_moveSpan_84 (by decide) (fun c_84 => absurd c_84 (by decide)) (fun c_84 => ?_)
      refine lv_aload_n hx hb dX5_moveSpan_87 rfl (lv_at hl 4 rfl) ?_
      refine r_cast S9 w p1 (by decide) 1 (by decide) rfl (by decide +kernel) dX5_moveSpan_88 ?_
      refine lv_astore (lv' := [(7, .ref (ad h9)), (6, .ref (ad h)), (0, .ref x), (1, .ref (ad h)), (2, .int (nI i')), (3, .ref (ad h9)), (4, .int (nI j')), (5, .int (nI n'))]) hx hb dX5_moveSpan_91 hl (by decide) rfl (fun ls hl => ?_)
      refine lv_aload_n hx hb dX5_moveSpan_93 rfl (lv_at hl 2 rfl) ?_
      refine lv_aload hx hb dX5_moveSpan_94 (lv_at hl 0 rfl) ?_
      refine lv_iload hx hb dX5_moveSpan_96 (lv_at hl 6 rfl) ?_
      refine lv_aload hx hb dX5_moveSpan_98 (lv_at hl 1 rfl) ?_
      refine lv_iload_n hx hb dX5_moveSpan_100 rfl (lv_at hl 4 rfl) ?_
      refine lv_iload hx hb dX5_moveSpan_101 (lv_at hl 7 rfl) ?_
      refine kw_vi S9 w (c_takeFittingSpan l _ hR hI ho9 ho hk9 hm9 hk hm j' i' n' b0 b9) p1 rfl (cwV 4 hts gX5_moveSpan_X2_takeFittingSpan rfl rfl rfl (by decide +kernel) ⟨Nat.le_of_ble_eq_true rfl, Nat.le_of_ble_eq_true rfl⟩) rfl hl.1 rfl (Nat.le_of_ble_eq_true rfl) dX5_moveSpan_103 ⟨Nat.le_of_ble_eq_true rfl, Nat.le_of_ble_eq_true rfl⟩ (fun v12 u8 H8 lc8 p8 w8 => ?_)
      have hR7 := RpX.els (f := va_cpy (o_e o) (o_e o9) i' j' (fitN S (o_k o9) (o_e o) n' i')) w.2.1 hR ho9 hk9 hm9 p8.2 (by rw [map_cpy])
      replace hR7 : RpX G x sh li ad ar (s_u S, va_up (s_o S) h9 (some (o_sete o9 (va_cpy (o_e o) (o_e o9) i' j' (fitN S (o_k o9) (o_e o) n' i')))), s_s S, s_l S, s_c S) u8 := hR7
      refine r_put (ref := "SpanMover") S9 w8 hR7.1 rfl (by decide +kernel) tyX5_ok nmX5 5 (by decide) (by decide +kernel) (Or.inl rfl) rfl rfl rfl (Nat.le_of_ble_eq_true rfl) dX5_moveSpan_106 (fun ws11 H11 lc11 u11 w11 => ?_)
      have hR11 := RpX.sc w8.2.1 hR7 u11 (oX_set sh li (s_c S) 3 (by decide) v12)
      replace hR11 : RpX G x sh li ad ar (s_u S, va_up (s_o S) h9 (some (o_sete o9 (va_cpy (o_e o) (o_e o9) i' j' (fitN S (o_k o9) (o_e o) n' i')))), s_s S, s_l S, upd (s_c S) 3 v12) ws11 := hR11
      have hx11 : hp ws11 x (.inr (3, [.ref sh, .ref li, .int (s_c S 0), .int (s_c S 1), .int (s_c S 2), .int v12, .int (s_c S 4), .int (s_c S 5), .int (s_c S 6)])) := hR11.1
      refine lv_aload_n hx hb dX5_moveSpan_109 rfl (lv_at hl 2 rfl) ?_
      refine r_get (ref := "SpanMover") S9 w11 hx11 rfl (by decide +kernel) 5 (by decide) (by decide +kernel) (Or.inl rfl) rfl dX5_moveSpan_110 ?_
      refine lv_iload hx hb dX5_moveSpan_113 (lv_at hl 7 rfl) ?_
      refine lv_icmp_ne (tgt := 122) hx hb dX5_moveSpan_115 (by decide) (fun c_115 => ?_) (fun c_115 => ?_)
      · refine lv_iconst (v := 5) hx hb dX5_moveSpan_122 (by decide) ?_
        exact ew_i S9 hr hlk w11 (by have hc : (¬ fitN S (o_k o9) (o_e o) n' i' = n') := (by intro q; rw [p8.1, q] at c_115; exact c_115 rfl); rw [show mvR S h9 o o9 (nI i') (nI j') (nI n') = (5, v12, _) from by unfold mvR; rw [if_neg (fun q => q s1), if_neg (fun q => q s2), if_neg (by omega), y1, y2, y3, if_neg hc, ← p8.1]]; exact ⟨rfl, hR11⟩) dX5_moveSpan_123 (by decide) (by decide)
      · refine lv_iconst (v := 0) hx hb dX5_moveSpan_118 (by decide) ?_
        refine lv_goto (tgt := 123) hx hb dX5_moveSpan_119 (by decide) ?_
        exact ew_i S9 hr hlk w11 (by have hc : (fitN S (o_k o9) (o_e o) n' i' = n') := (by rw [p8.1] at c_115; exact (nI_eq (by have := fitN_le (S := S) (k := o_k o9) (e := o_e o) (n := n') (i := i'); omega) (by omega)).mp c_115); rw [show mvR S h9 o o9 (nI i') (nI j') (nI n') = (0, v12, _) from by unfold mvR; rw [if_neg (fun q => q s1), if_neg (fun q => q s2), if_neg (by omega), y1, y2, y3, if_pos hc, ← p8.1]]; exact ⟨rfl, hR11⟩) dX5_moveSpan_123 (by decide) (by decide)
    · refine lv_iconst (v := 4) hx hb dX5_moveSpan_21 (by decide) ?_
      exact ew_i S9 hr hlk w (by have s2 : ¬ inS (o_n o9) j n := (fun q => by rw [e8, if_pos q] at c_18; exact absurd c_18 (by decide)); rw [show mvR S h9 o o9 i j n = (4, 0, s_o S) from by unfold mvR; by_cases s1 : inS (o_n o) i n; (rw [if_neg (fun q => q s1), if_pos s2]); (rw [if_pos s1])]; exact ⟨rfl, by rw [upd_same hz]; exact hR⟩) dX5_moveSpan_22 (by decide) (by decide)
