theorem W_at {p : Program} {l : Launch} {e : Env} {R : Room} {s : State} {m : MethodId} {args : Array Value} {below : List Frame} {meth : Method} {c : Code} {H H' : Heap} {locs locs' : List Loc} {cells slots : Nat} {Q : State → Prop} {g : JFrame} (h1 : H = H') (h2 : locs = locs') (k : W p l e R s m args below meth c H' locs' cells slots Q g) : W p l e R s m args below meth c H locs cells slots Q g := by
  subst h1
  subst h2
  exact k
set_option maxHeartbeats 4000000 in
set_option maxRecDepth 100000 in
theorem c_digestedAs_N (l : Launch) {G : Gt} {ws : va_W} (sz : Nat)  : Met l yX2_digestedAs wsX2_digestedAs ({ frames := 1, cells := 0, slots := 0, locals := 27 } : Room) (Pw G [.null] ws sz) (va_Ql (fun (r : Int64) (u : va_W) => r = 0 ∧ u = ws) (Bw G ws sz) (va_A ws sz)) 0 0 (va_A ws sz) := by
  refine Met_pw (cc := cX2_digestedAs) (maxL := 2) (ret := (some .long)) (by decide) rfl (Nat.le_of_ble_eq_true rfl) ?_
  intro p e s m below meth c ls hsz S9 hr hlk hnm w hl
  subst hsz
  replace S9 : CallFix p m c cX2_digestedAs 2 s _ wsX2_digestedAs RX2 := S9
  have hx := S9.1
  have hb := S9.2.1
  have hown := S9.2.2.2.1
  have hts := S9.2.2.2.2
  replace hl : lv_has ls 2 [(0, .null)] := hl
  refine lv_aload_nN hx hb dX2_digestedAs_0 rfl (lv_at hl 0 rfl) ?_
  refine lv_ifnonnullN hx hb dX2_digestedAs_1 ?_
  refine lv_lconst (v := 0) hx hb dX2_digestedAs_4 (by decide) ?_
  exact ew_l S9 hr hlk w (⟨rfl, rfl⟩) dX2_digestedAs_5 (by decide) (by decide)

set_option maxHeartbeats 4000000 in
set_option maxRecDepth 100000 in
theorem c_digestedAs_0 (l : Launch) {G : Gt} {ws : va_W} (sz : Nat) {x sh li : Nat} {ad ar : Nat → Nat} {S : St} (hR : RpX G x sh li ad ar S ws) (hI : Inv S) {h : Nat} {o : Ob} (ho : s_o S h = some o) (hk : o_k o ≤ 3) : Met l yX2_digestedAs wsX2_digestedAs ({ frames := 1, cells := 0, slots := 0, locals := 27 } : Room) (Pw G [.ref (ad h)] ws sz) (va_Ql (fun (r : Int64) (u : va_W) => r = dgE S (some h) ∧ RpX G x sh li ad ar S u) (Bw G ws sz) (va_A ws sz)) 0 0 (va_A ws sz) := by
  refine Met_pw (cc := cX2_digestedAs) (maxL := 2) (ret := (some .long)) (by decide) rfl (Nat.le_of_ble_eq_true rfl) ?_
  intro p e s m below meth c ls hsz S9 hr hlk hnm w hl
  subst hsz
  replace S9 : CallFix p m c cX2_digestedAs 2 s _ wsX2_digestedAs RX2 := S9
  have hx := S9.1
  have hb := S9.2.1
  have hown := S9.2.2.2.1
  have hts := S9.2.2.2.2
  replace hl : lv_has ls 2 [(0, .ref (ad h))] := hl
  obtain ⟨dk, kd, q1, q2, q3, q4⟩ := hR.2.2.2.1 h o ho
  rw [o_num hk] at q1
  refine lv_aload_n hx hb dX2_digestedAs_0 rfl (lv_at hl 0 rfl) ?_
  refine lv_ifnonnull (tgt := 6) hx hb dX2_digestedAs_1 (by decide) ?_
  refine lv_aload_n hx hb dX2_digestedAs_6 rfl (lv_at hl 0 rfl) ?_
  refine r_inst S9 w q1 (by decide) 0 (by decide) (by decide +kernel) (v := 1) rfl dX2_digestedAs_7 ?_
  refine lv_if_eq (tgt := 23) hx hb dX2_digestedAs_10 (by decide) (fun c_10 => absurd c_10 (by decide)) (fun c_10 => ?_)
  refine lv_aload_n hx hb dX2_digestedAs_13 rfl (lv_at hl 0 rfl) ?_
  refine r_cast S9 w q1 (by decide) 0 (by decide) rfl (by decide +kernel) dX2_digestedAs_14 ?_
  refine lv_astore_n (lv' := [(1, .ref (ad h)), (0, .ref (ad h))]) hx hb dX2_digestedAs_17 rfl hl (by decide) rfl (fun ls hl => ?_)
  refine lv_aload_n hx hb dX2_digestedAs_18 rfl (lv_at hl 0 rfl) ?_
  refine kw_vl S9 w (c_digestOfNumbers l _ q1 (by have := (hI.ob ho).2; omega) (q3 hk) q2) q1 rfl (cwV 0 hts gX2_digestedAs_X1_digestOfNumbers rfl rfl rfl (by decide +kernel) ⟨Nat.le_of_ble_eq_true rfl, Nat.le_of_ble_eq_true rfl⟩) rfl hl.1 rfl (Nat.le_of_ble_eq_true rfl) dX2_digestedAs_19 ⟨Nat.le_of_ble_eq_true rfl, Nat.le_of_ble_eq_true rfl⟩ (fun v12 u12 H12 lc12 p12 w12 => ?_)
  exact ew_l S9 hr hlk w12 (by have hO : obj S (some h) = some o := ho; simp only [dgE, hO, hk, if_true]; exact ⟨p12.1, RpX.dig w.2.1 hR ho hk p12.2⟩) dX2_digestedAs_22 (by decide) (by decide)

set_option maxHeartbeats 4000000 in
set_option maxRecDepth 100000 in
theorem c_digestedAs_1 (l : Launch) {G : Gt} {ws : va_W} (sz : Nat) {x sh li : Nat} {ad ar : Nat → Nat} {S : St} (hR : RpX G x sh li ad ar S ws) (hI : Inv S) {h : Nat} {o : Ob} (ho : s_o S h = some o) (hk : 4 ≤ o_k o) (hm : o_k o ≤ 6) : Met l yX2_digestedAs wsX2_digestedAs ({ frames := 1, cells := 0, slots := 0, locals := 27 } : Room) (Pw G [.ref (ad h)] ws sz) (va_Ql (fun (r : Int64) (u : va_W) => r = dgE S (some h) ∧ RpX G x sh li ad ar S u) (Bw G ws sz) (va_A ws sz)) 0 0 (va_A ws sz) := by
  refine Met_pw (cc := cX2_digestedAs) (maxL := 2) (ret := (some .long)) (by decide) rfl (Nat.le_of_ble_eq_true rfl) ?_
  intro p e s m below meth c ls hsz S9 hr hlk hnm w hl
  subst hsz
  replace S9 : CallFix p m c cX2_digestedAs 2 s _ wsX2_digestedAs RX2 := S9
  have hx := S9.1
  have hb := S9.2.1
  have hown := S9.2.2.2.1
  have hts := S9.2.2.2.2
  replace hl : lv_has ls 2 [(0, .ref (ad h))] := hl
  obtain ⟨dk, kd, q1, q2, q3, q4⟩ := hR.2.2.2.1 h o ho
  rw [o_obj hk hm] at q1
  refine lv_aload_n hx hb dX2_digestedAs_0 rfl (lv_at hl 0 rfl) ?_
  refine lv_ifnonnull (tgt := 6) hx hb dX2_digestedAs_1 (by decide) ?_
  refine lv_aload_n hx hb dX2_digestedAs_6 rfl (lv_at hl 0 rfl) ?_
  refine r_inst S9 w q1 (by decide) 0 (by decide) (by decide +kernel) (v := 0) rfl dX2_digestedAs_7 ?_
  refine lv_if_eq (tgt := 23) hx hb dX2_digestedAs_10 (by decide) (fun c_10 => ?_) (fun c_10 => absurd c_10 (by decide))
  refine lv_aload_n hx hb dX2_digestedAs_23 rfl (lv_at hl 0 rfl) ?_
  refine k_snl S9 w (u_toldAs l _ hR hI (some h) (fun h2 e2 => by cases e2; exact ⟨o, ho⟩)) ⟨va_cnB 1 hts gX2_digestedAs_X5_toldAs_n44 rfl rfl rfl w.2.2.2.2.2.2.2.2 (hts (.initialized RX5) (by decide +kernel)) (by decide +kernel) ⟨Nat.le_of_ble_eq_true rfl, Nat.le_of_ble_eq_true rfl⟩, hts (.static yX5_toldAs) (by decide +kernel), trivial⟩ rfl hl.1 rfl (Nat.le_of_ble_eq_true rfl) dX2_digestedAs_24 ⟨Nat.le_of_ble_eq_true rfl, Nat.le_of_ble_eq_true rfl⟩ (fun v11 e11 => ?_)
  exact ew_l S9 hr hlk w (by have hO : obj S (some h) = some o := ho; rw [hO] at e11; simp only [dgE, hO, show ¬ o_k o ≤ 3 by omega, if_false]; exact ⟨e11, hR⟩) dX2_digestedAs_27 (by decide) (by decide)

set_option maxHeartbeats 4000000 in
set_option maxRecDepth 100000 in
theorem c_digestedAs_2 (l : Launch) {G : Gt} {ws : va_W} (sz : Nat) {x sh li : Nat} {ad ar : Nat → Nat} {S : St} (hR : RpX G x sh li ad ar S ws) (hI : Inv S) {h : Nat} {o : Ob} (ho : s_o S h = some o) (hk : 7 ≤ o_k o) : Met l yX2_digestedAs wsX2_digestedAs ({ frames := 1, cells := 0, slots := 0, locals := 27 } : Room) (Pw G [.ref (ad h)] ws sz) (va_Ql (fun (r : Int64) (u : va_W) => r = dgE S (some h) ∧ RpX G x sh li ad ar S u) (Bw G ws sz) (va_A ws sz)) 0 0 (va_A ws sz) := by
  refine Met_pw (cc := cX2_digestedAs) (maxL := 2) (ret := (some .long)) (by decide) rfl (Nat.le_of_ble_eq_true rfl) ?_
  intro p e s m below meth c ls hsz S9 hr hlk hnm w hl
  subst hsz
  replace S9 : CallFix p m c cX2_digestedAs 2 s _ wsX2_digestedAs RX2 := S9
  have hx := S9.1
  have hb := S9.2.1
  have hown := S9.2.2.2.1
  have hts := S9.2.2.2.2
  replace hl : lv_has ls 2 [(0, .ref (ad h))] := hl
  obtain ⟨dk, kd, q1, q2, q3, q4⟩ := hR.2.2.2.1 h o ho
  rw [o_thg hk] at q1
  refine lv_aload_n hx hb dX2_digestedAs_0 rfl (lv_at hl 0 rfl) ?_
  refine lv_ifnonnull (tgt := 6) hx hb dX2_digestedAs_1 (by decide) ?_
  refine lv_aload_n hx hb dX2_digestedAs_6 rfl (lv_at hl 0 rfl) ?_
  refine r_inst S9 w q1 (by decide) 0 (by decide) (by decide +kernel) (v := 0) rfl dX2_digestedAs_7 ?_
  refine lv_if_eq (tgt := 23) hx hb dX2_digestedAs_10 (by decide) (fun c_10 => ?_) (fun c_10 => absurd c_10 (by decide))
  refine lv_aload_n hx hb dX2_digestedAs_23 rfl (lv_at hl 0 rfl) ?_
  refine k_snl S9 w (u_toldAs l _ hR hI (some h) (fun h2 e2 => by cases e2; exact ⟨o, ho⟩)) ⟨va_cnB 1 hts gX2_digestedAs_X5_toldAs_n44 rfl rfl rfl w.2.2.2.2.2.2.2.2 (hts (.initialized RX5) (by decide +kernel)) (by decide +kernel) ⟨Nat.le_of_ble_eq_true rfl, Nat.le_of_ble_eq_true rfl⟩, hts (.static yX5_toldAs) (by decide +kernel), trivial⟩ rfl hl.1 rfl (Nat.le_of_ble_eq_true rfl) dX2_digestedAs_24 ⟨Nat.le_of_ble_eq_true rfl, Nat.le_of_ble_eq_true rfl⟩ (fun v11 e11 => ?_)
  exact ew_l S9 hr hlk w (by have hO : obj S (some h) = some o := ho; rw [hO] at e11; simp only [dgE, hO, show ¬ o_k o ≤ 3 by omega, if_false]; exact ⟨e11, hR⟩) dX2_digestedAs_27 (by decide) (by decide)

theorem u_digestedAs (l : Launch) {G : Gt} {ws : va_W} (sz : Nat) {x sh li : Nat} {ad ar : Nat → Nat} {S : St} (hR : RpX G x sh li ad ar S ws) (hI : Inv S) (r : Option Nat) (hv : okr S r) : Met l yX2_digestedAs wsX2_digestedAs ({ frames := 1, cells := 0, slots := 0, locals := 27 } : Room) (Pw G [va_rf (r.map ad)] ws sz) (va_Ql (fun (z : Int64) (u : va_W) => z = dgE S r ∧ RpX G x sh li ad ar S u) (Bw G ws sz) (va_A ws sz)) 0 0 (va_A ws sz) := by
  cases r with
  | none => exact (c_digestedAs_N l sz).mono (fun _ _ _ _ ⟨⟨z, u, g1, g2, g3⟩, g4⟩ => ⟨⟨z, u, g1, ⟨g2.1, by rw [g2.2]; exact hR⟩, g3⟩, g4⟩)
  | some h =>
    obtain ⟨o, ho⟩ := hv h rfl
    rcases (show o_k o ≤ 3 ∨ (4 ≤ o_k o ∧ o_k o ≤ 6) ∨ 7 ≤ o_k o by omega) with hk | ⟨hk, hm⟩ | hk
    · exact c_digestedAs_0 l sz hR hI ho hk
    · exact c_digestedAs_1 l sz hR hI ho hk hm
    · exact c_digestedAs_2 l sz hR hI ho hk

set_option maxHeartbeats 4000000 in
set_option maxRecDepth 100000 in
theorem c_digestOfObjects (l : Launch) {G : Gt} {ws : va_W} (sz : Nat) {x sh li : Nat} {ad ar : Nat → Nat} {S : St} (hR : RpX G x sh li ad ar S ws) (hI : Inv S) {h : Nat} {o : Ob} (ho : s_o S h = some o) (hk : 4 ≤ o_k o) (hm : o_k o ≤ 6) : Met l yX2_digestOfObjects wsX2_digestOfObjects ({ frames := 2, cells := 0, slots := 0, locals := 48 } : Room) (Pw G [.ref (ad h)] ws sz) (va_Ql (fun (r : Int64) (u : va_W) => r = dgO S (o_k o) (o_e o) (o_n o) ∧ RpX G x sh li ad ar S u) (Bw G ws sz) (va_A ws sz)) 0 0 (va_A ws sz) := by
  refine Met_pw (cc := cX2_digestOfObjects) (maxL := 7) (ret := (some .long)) (by decide) rfl (Nat.le_of_ble_eq_true rfl) ?_
  intro p e s m below meth c ls hsz S9 hr hlk hnm w hl
  subst hsz
  replace S9 : CallFix p m c cX2_digestOfObjects 7 s _ wsX2_digestOfObjects RX2 := S9
  have hx := S9.1
  have hb := S9.2.1
  have hown := S9.2.2.2.1
  have hts := S9.2.2.2.2
  replace hl : lv_has ls 7 [(0, .ref (ad h))] := hl
  obtain ⟨dk, kd, q1, q2, q3, q4⟩ := hR.2.2.2.1 h o ho
  rw [o_obj hk hm] at q1
  refine lv_aload_n hx hb dX2_digestOfObjects_0 rfl (lv_at hl 0 rfl) ?_
  refine r_get (ref := "SpanMover$ObjectRow") S9 w q1 rfl (by decide +kernel) 1 (by decide) (by decide +kernel) (Or.inr (by decide +kernel)) rfl dX2_digestOfObjects_1 ?_
  refine lv_iconst (v := 1) hx hb dX2_digestOfObjects_4 (by decide) ?_
  refine lv_iadd hx hb dX2_digestOfObjects_5 ?_
  refine lv_topi (fun v1 ev1 => ?_)
  obtain ⟨v2, ev2⟩ : ∃ z : Int64, Int32.toInt64 v1 = z := ⟨_, rfl⟩
  refine lv_i2l (v := v2) hx hb dX2_digestOfObjects_6 ev2 ?_
  refine lv_lstore_n (lv' := [(1, .long v2), (0, .ref (ad h))]) hx hb dX2_digestOfObjects_7 rfl hl (by decide) rfl (fun ls hl => ?_)
  refine lv_aload_n hx hb dX2_digestOfObjects_8 rfl (lv_at hl 1 rfl) ?_
  refine r_get (ref := "SpanMover$ObjectRow") S9 w q1 rfl (by decide +kernel) 2 (by decide) (by decide +kernel) (Or.inl rfl) rfl dX2_digestOfObjects_9 ?_
  refine lv_astore_n (lv' := [(3, .ref (ar h)), (1, .long v2), (0, .ref (ad h))]) hx hb dX2_digestOfObjects_12 rfl hl (by decide) rfl (fun ls hl => ?_)
  refine lv_aload_n hx hb dX2_digestOfObjects_13 rfl (lv_at hl 0 rfl) ?_
  refine r_alen S9 w (q4 hk hm) dX2_digestOfObjects_14 ?_
  refine lv_istore (lv' := [(4, .int (nI (o_n o))), (3, .ref (ar h)), (1, .long v2), (0, .ref (ad h))]) hx hb dX2_digestOfObjects_15 hl (by decide) rfl (fun ls hl => ?_)
  refine lv_iconst (v := 0) hx hb dX2_digestOfObjects_17 (by decide) ?_
  refine lv_istore (lv' := [(5, .int 0), (4, .int (nI (o_n o))), (3, .ref (ar h)), (1, .long v2), (0, .ref (ad h))]) hx hb dX2_digestOfObjects_18 hl (by decide) rfl (fun ls hl => ?_)
  obtain ⟨i, hi, hv, hd⟩ : ∃ i : Nat, i ≤ o_n o ∧ (0 : Int32) = nI i ∧ v2 = dgO S (o_k o) (o_e o) i := ⟨0, by omega, rfl, by rw [← ev2, ev1]; rfl⟩
  obtain ⟨v, hv0⟩ : ∃ v : Int32, v = 0 := ⟨_, rfl⟩
  obtain ⟨d, hd0⟩ : ∃ d : Int64, d = v2 := ⟨_, rfl⟩
  replace hl : lv_has ls 7 [(5, .int v), (4, .int (nI (o_n o))), (3, .ref (ar h)), (1, .long d), (0, .ref (ad h))] := by rw [hv0, hd0]; exact hl
  rw [← hv0] at hv
  rw [← hd0] at hd
  clear hv0 hd0 q1 q2 q3 q4
  obtain ⟨ws7, H7, lc7, w7, hR7, eH, eL⟩ : ∃ (ws7 : va_W) (H7 : Heap) (lc7 : List Loc), Wd G (va_A ws s.heap.size) s ws7 H7 lc7 ∧ RpX G x sh li ad ar S ws7 ∧ s.heap = H7 ∧ [] = lc7 := ⟨ws, _, _, w, hR, rfl, rfl⟩
  refine W_at eH eL ?_
  clear eH eL
  obtain ⟨t, ht⟩ : ∃ t, o_n o - i < t := ⟨_, Nat.lt_succ_self _⟩
  have hn : o_n o < 2 ^ 31 := by have := (hI.ob ho).2; omega
  induction t generalizing i v d ls ws7 H7 lc7 with
  | zero => exact absurd ht (Nat.not_lt_zero _)
  | succ t ih =>
    obtain ⟨dk, kd, q1, q2, q3, q4⟩ := hR7.2.2.2.1 h o ho
    rw [o_obj hk hm] at q1
    refine lv_iload hx hb dX2_digestOfObjects_20 (lv_at hl 0 rfl) ?_
    refine lv_iload hx hb dX2_digestOfObjects_22 (lv_at hl 1 rfl) ?_
    refine lv_icmp_ge (tgt := 51) hx hb dX2_digestOfObjects_24 (by decide) (fun c_24 => ?_) (fun c_24 => ?_)
    · refine lv_lload_n hx hb dX2_digestOfObjects_51 rfl (lv_at hl 3 rfl) ?_
      exact ew_l S9 hr hlk w7 ⟨by have h4 := ge_nI hv hi hn c_24; subst h4; exact hd, hR7⟩ dX2_digestOfObjects_52 (by decide) (by decide)
    · refine lv_aload_n hx hb dX2_digestOfObjects_27 rfl (lv_at hl 2 rfl) ?_
      refine lv_iload hx hb dX2_digestOfObjects_28 (lv_at hl 0 rfl) ?_
      refine r_aald S9 w7 (q4 hk hm) (in_nI hv hi hn c_24) dX2_digestOfObjects_30 ?_
      refine lq_astore (lv' := [(6, va_rf ((fun i => (o_e o i).map ad) v.toNatClampNeg)), (5, .int v), (4, .int (nI (o_n o))), (3, .ref (ar h)), (1, .long d), (0, .ref (ad h))]) hx hb dX2_digestOfObjects_31 hl (by decide) rfl (fun ls hl => ?_)
      refine lv_ldc2 (v := 31) hx hb hown (hts (.constantLong RX2 32 (31)) (by decide +kernel)) dX2_digestOfObjects_33 ?_
      refine lv_lload_n hx hb dX2_digestOfObjects_36 rfl (lv_at hl 4 rfl) ?_
      refine lv_lmul hx hb dX2_digestOfObjects_37 ?_
      refine lv_topl (fun v3 ev3 => ?_)
      refine lq_aload hx hb dX2_digestOfObjects_38 (lv_at hl 0 rfl) ?_
      refine kw_sl S9 w7 (u_digestedAs l _ hR7 hI (o_e o v.toNatClampNeg) (hI.el ho hk hm _)) (va_cwS 1 hts gX2_digestOfObjects_X2_digestedAs rfl rfl rfl (by decide +kernel) ⟨Nat.le_of_ble_eq_true rfl, Nat.le_of_ble_eq_true rfl⟩) rfl hl.1 rfl (Nat.le_of_ble_eq_true rfl) dX2_digestOfObjects_40 ⟨Nat.le_of_ble_eq_true rfl, Nat.le_of_ble_eq_true rfl⟩ (fun v12 u12 H12 lc12 p12 w12 => ?_)
      refine lv_ladd hx hb dX2_digestOfObjects_43 ?_
      refine lv_topl (fun v4 ev4 => ?_)
      refine lv_lstore_n (lv' := [(1, .long v4), (6, va_rf ((fun i => (o_e o i).map ad) v.toNatClampNeg)), (5, .int v), (4, .int (nI (o_n o))), (3, .ref (ar h)), (0, .ref (ad h))]) hx hb dX2_digestOfObjects_44 rfl hl (by decide) rfl (fun ls hl => ?_)
      obtain ⟨v5, ev5⟩ : ∃ z : Int32, z = v + 1 := ⟨_, rfl⟩
      refine lv_iinc (v := v5) (lv' := [(5, .int v5), (1, .long v4), (6, va_rf ((fun i => (o_e o i).map ad) v.toNatClampNeg)), (4, .int (nI (o_n o))), (3, .ref (ar h)), (0, .ref (ad h))]) hx hb dX2_digestOfObjects_45 hl (k := 2) rfl (by rw [ev5]; rfl) (by decide) rfl (fun ls hl => ?_)
      refine lv_goto (tgt := 20) hx hb dX2_digestOfObjects_48 (by decide) ?_
      have hi4 := nge_nI hv hi hn c_24
      exact ih (ls := ls) (i := i + 1) (v := v5) (d := v4) (ws7 := u12) (H7 := H12) (lc7 := lc12) (hi := by omega) (hv := by rw [ev5, hv]; exact nI_1 i) (hd := by rw [ev4, ev3, hd, p12.1, cl_nI hv (by omega)]; rfl) (hl := lv_sub hl [0, 3, 4, 1, 5] rfl) (w7 := w12) (hR7 := p12.2) (ht := by omega)

set_option maxHeartbeats 4000000 in
set_option maxRecDepth 100000 in
theorem c_digest (l : Launch) {G : Gt} {ws : va_W} (sz : Nat) {x sh li : Nat} {ad ar : Nat → Nat} {S : St} (hR : RpX G x sh li ad ar S ws) (hI : Inv S) (pl : Int32) : Met l yX5_digest wsX5_digest ({ frames := 3, cells := 0, slots := 0, locals := 74 } : Room) (Pw G [.ref x, .int pl] ws sz) (va_Ql (fun (r : Int64) (u : va_W) => r = sp_digest S pl ∧ ∃ ad2 ar2, RpX G x sh li ad2 ar2 S u) (Bw G ws sz) (va_A ws sz)) 0 0 (va_A ws sz) := by
  refine Met_pw (cc := cX5_digest) (maxL := 4) (ret := (some .long)) (by decide) rfl (Nat.le_of_ble_eq_true rfl) ?_
  intro p e s m below meth c ls hsz S9 hr hlk hnm w hl
  subst hsz
  replace S9 : CallFix p m c cX5_digest 4 s _ wsX5_digest RX5 := S9
  have hx := S9.1
  have hb := S9.2.1
  have hown := S9.2.2.2.1
  have hts := S9.2.2.2.2
  replace hl : lv_has ls 4 [(0, .ref x), (1, .int pl)] := hl
  refine lv_aload_n hx hb dX5_digest_0 rfl (lv_at hl 0 rfl) ?_
  refine lv_iload_n hx hb dX5_digest_1 rfl (lv_at hl 1 rfl) ?_
  refine kx_itemAt S9 w hR hI gX5_digest_X5_itemAt hl.1 (Nat.le_of_ble_eq_true rfl) dX5_digest_2 ⟨Nat.le_of_ble_eq_true rfl, Nat.le_of_ble_eq_true rfl⟩ ⟨Nat.le_of_ble_eq_true rfl, Nat.le_of_ble_eq_true rfl⟩ (fun i_2 => ?_) (fun h o i_2 ho => ?_)
  · refine lv_astore_nN (lv' := [(2, .null), (0, .ref x), (1, .int pl)]) hx hb dX5_digest_5 rfl hl (by decide) rfl (fun ls hl => ?_)
    refine lv_aload_nN hx hb dX5_digest_6 rfl (lv_at hl 0 rfl) ?_
    refine lv_instN hx hb dX5_digest_7 ?_
    refine lv_if_eq (tgt := 23) hx hb dX5_digest_10 (by decide) (fun c_10 => ?_) (fun c_10 => absurd c_10 (by decide))
    refine lv_aload_nN hx hb dX5_digest_23 rfl (lv_at hl 0 rfl) ?_
    refine lv_instN hx hb dX5_digest_24 ?_
    refine lv_if_eq (tgt := 40) hx hb dX5_digest_27 (by decide) (fun c_27 => ?_) (fun c_27 => absurd c_27 (by decide))
    refine lv_aload_nN hx hb dX5_digest_40 rfl (lv_at hl 0 rfl) ?_
    refine lv_instN hx hb dX5_digest_41 ?_
    refine lv_if_eq (tgt := 70) hx hb dX5_digest_44 (by decide) (fun c_44 => ?_) (fun c_44 => absurd c_44 (by decide))
    refine lv_lconst (v := 0) hx hb dX5_digest_70 (by decide) ?_
    exact ew_l S9 hr hlk w (⟨by simp [sp_digest, obj_none i_2], ad, ar, hR⟩) dX5_digest_71 (by decide) (by decide)
  · obtain ⟨dk, kd, q1, q2, q3, q4⟩ := hR.2.2.2.1 h o ho
    rcases (show o_k o ≤ 3 ∨ (4 ≤ o_k o ∧ o_k o ≤ 6) ∨ 7 ≤ o_k o by omega) with hk | ⟨hk, hm⟩ | hk
    · rw [o_num hk] at q1
      refine lv_astore_n (lv' := [(2, .ref (ad h)), (0, .ref x), (1, .int pl)]) hx hb dX5_digest_5 rfl hl (by decide) rfl (fun ls hl => ?_)
      refine lv_aload_n hx hb dX5_digest_6 rfl (lv_at hl 0 rfl) ?_
      refine r_inst S9 w q1 (by decide) 0 (by decide) (by decide +kernel) (v := 1) rfl dX5_digest_7 ?_
      refine lv_if_eq (tgt := 23) hx hb dX5_digest_10 (by decide) (fun c_10 => absurd c_10 (by decide)) (fun c_10 => ?_)
      refine lv_aload_n hx hb dX5_digest_13 rfl (lv_at hl 0 rfl) ?_
      refine r_cast S9 w q1 (by decide) 0 (by decide) rfl (by decide +kernel) dX5_digest_14 ?_
      refine lv_astore_n (lv' := [(3, .ref (ad h)), (2, .ref (ad h)), (0, .ref x), (1, .int pl)]) hx hb dX5_digest_17 rfl hl (by decide) rfl (fun ls hl => ?_)
      refine lv_aload_n hx hb dX5_digest_18 rfl (lv_at hl 0 rfl) ?_
      refine kw_vl S9 w (c_digestOfNumbers l _ q1 (by have := (hI.ob ho).2; omega) (q3 hk) q2) q1 rfl (cwV 0 hts gX5_digest_X1_digestOfNumbers rfl rfl rfl (by decide +kernel) ⟨Nat.le_of_ble_eq_true rfl, Nat.le_of_ble_eq_true rfl⟩) rfl hl.1 rfl (Nat.le_of_ble_eq_true rfl) dX5_digest_19 ⟨Nat.le_of_ble_eq_true rfl, Nat.le_of_ble_eq_true rfl⟩ (fun v12 u12 H12 lc12 p12 w12 => ?_)
      exact ew_l S9 hr hlk w12 (⟨by simp only [sp_digest, obj_some i_2 ho, hk, if_true]; exact p12.1, ad, ar, RpX.dig w.2.1 hR ho hk p12.2⟩) dX5_digest_22 (by decide) (by decide)
    · rw [o_obj hk hm] at q1
      refine lv_astore_n (lv' := [(2, .ref (ad h)), (0, .ref x), (1, .int pl)]) hx hb dX5_digest_5 rfl hl (by decide) rfl (fun ls hl => ?_)
      refine lv_aload_n hx hb dX5_digest_6 rfl (lv_at hl 0 rfl) ?_
      refine r_inst S9 w q1 (by decide) 0 (by decide) (by decide +kernel) (v := 0) rfl dX5_digest_7 ?_
      refine lv_if_eq (tgt := 23) hx hb dX5_digest_10 (by decide) (fun c_10 => ?_) (fun c_10 => absurd c_10 (by decide))
      refine lv_aload_n hx hb dX5_digest_23 rfl (lv_at hl 0 rfl) ?_
      refine r_inst S9 w q1 (by decide) 1 (by decide) (by decide +kernel) (v := 1) rfl dX5_digest_24 ?_
      refine lv_if_eq (tgt := 40) hx hb dX5_digest_27 (by decide) (fun c_27 => absurd c_27 (by decide)) (fun c_27 => ?_)
      refine lv_aload_n hx hb dX5_digest_30 rfl (lv_at hl 0 rfl) ?_
      refine r_cast S9 w q1 (by decide) 1 (by decide) rfl (by decide +kernel) dX5_digest_31 ?_
      refine lv_astore_n (lv' := [(3, .ref (ad h)), (2, .ref (ad h)), (0, .ref x), (1, .int pl)]) hx hb dX5_digest_34 rfl hl (by decide) rfl (fun ls hl => ?_)
      refine lv_aload_n hx hb dX5_digest_35 rfl (lv_at hl 0 rfl) ?_
      refine kw_vl S9 w (c_digestOfObjects l _ hR hI ho hk hm) q1 rfl (cwV 0 hts gX5_digest_X2_digestOfObjects rfl rfl rfl (by decide +kernel) ⟨Nat.le_of_ble_eq_true rfl, Nat.le_of_ble_eq_true rfl⟩) rfl hl.1 rfl (Nat.le_of_ble_eq_true rfl) dX5_digest_36 ⟨Nat.le_of_ble_eq_true rfl, Nat.le_of_ble_eq_true rfl⟩ (fun v12 u12 H12 lc12 p12 w12 => ?_)
      exact ew_l S9 hr hlk w12 (⟨by simp only [sp_digest, obj_some i_2 ho, show ¬ o_k o ≤ 3 by omega, hm, if_true, if_false]; exact p12.1, ad, ar, p12.2⟩) dX5_digest_39 (by decide) (by decide)
    · rw [o_thg hk] at q1
      refine lv_astore_n (lv' := [(2, .ref (ad h)), (0, .ref x), (1, .int pl)]) hx hb dX5_digest_5 rfl hl (by decide) rfl (fun ls hl => ?_)
      refine lv_aload_n hx hb dX5_digest_6 rfl (lv_at hl 0 rfl) ?_
      refine r_inst S9 w q1 (by decide) 0 (by decide) (by decide +kernel) (v := 0) rfl dX5_digest_7 ?_
      refine lv_if_eq (tgt := 23) hx hb dX5_digest_10 (by decide) (fun c_10 => ?_) (fun c_10 => absurd c_10 (by decide))
      refine lv_aload_n hx hb dX5_digest_23 rfl (lv_at hl 0 rfl) ?_
      refine r_inst S9 w q1 (by decide) 1 (by decide) (by decide +kernel) (v := 0) rfl dX5_digest_24 ?_
      refine lv_if_eq (tgt := 40) hx hb dX5_digest_27 (by decide) (fun c_27 => ?_) (fun c_27 => absurd c_27 (by decide))
      refine lv_aload_n hx hb dX5_digest_40 rfl (lv_at hl 0 rfl) ?_
      refine r_inst S9 w q1 (by decide) 2 (by decide) (by decide +kernel) (v := 1) rfl dX5_digest_41 ?_
      refine lv_if_eq (tgt := 70) hx hb dX5_digest_44 (by decide) (fun c_44 => absurd c_44 (by decide)) (fun c_44 => ?_)
      refine lv_aload_n hx hb dX5_digest_47 rfl (lv_at hl 0 rfl) ?_
      refine r_cast S9 w q1 (by decide) 2 (by decide) rfl (by decide +kernel) dX5_digest_48 ?_
      refine lv_astore_n (lv' := [(3, .ref (ad h)), (2, .ref (ad h)), (0, .ref x), (1, .int pl)]) hx hb dX5_digest_51 rfl hl (by decide) rfl (fun ls hl => ?_)
      refine lv_ldc2 (v := 31) hx hb hown (hts (.constantLong RX5 122 (31)) (by decide +kernel)) dX5_digest_52 ?_
      refine lv_aload_n hx hb dX5_digest_55 rfl (lv_at hl 0 rfl) ?_
      refine r_get (ref := "SpanMover$Thing") S9 w q1 rfl (by decide +kernel) 0 (by decide) (by decide +kernel) (Or.inr (by decide +kernel)) rfl dX5_digest_56 ?_
      refine lv_iconst (v := 1) hx hb dX5_digest_59 (by decide) ?_
      refine lv_iadd hx hb dX5_digest_60 ?_
      refine lv_topi (fun v1 ev1 => ?_)
      obtain ⟨v2, ev2⟩ : ∃ z : Int64, Int32.toInt64 v1 = z := ⟨_, rfl⟩
      refine lv_i2l (v := v2) hx hb dX5_digest_61 ev2 ?_
      refine lv_lmul hx hb dX5_digest_62 ?_
      refine lv_topl (fun v3 ev3 => ?_)
      refine lv_aload_n hx hb dX5_digest_63 rfl (lv_at hl 0 rfl) ?_
      refine r_get (ref := "SpanMover$Thing") S9 w q1 rfl (by decide +kernel) 1 (by decide) (by decide +kernel) (Or.inl rfl) rfl dX5_digest_64 ?_
      obtain ⟨v4, ev4⟩ : ∃ z : Int64, Int32.toInt64 (o_v o) = z := ⟨_, rfl⟩
      refine lv_i2l (v := v4) hx hb dX5_digest_67 ev4 ?_
      refine lv_ladd hx hb dX5_digest_68 ?_
      refine lv_topl (fun v5 ev5 => ?_)
      exact ew_l S9 hr hlk w (⟨by simp only [sp_digest, obj_some i_2 ho, show ¬ o_k o ≤ 3 by omega, show ¬ o_k o ≤ 6 by omega, if_false]; subst_vars; rfl, ad, ar, hR⟩) dX5_digest_69 (by decide) (by decide)

set_option maxHeartbeats 4000000 in
set_option maxRecDepth 100000 in
theorem c_plan (l : Launch) {G : Gt} {ws : va_W} (sz : Nat) {x sh li : Nat} {ad ar : Nat → Nat} {S : St} (hR : RpX G x sh li ad ar S ws) (hI : Inv S) (a i b j n : Int32) : Met l yX5_plan wsX5_plan ({ frames := 0, cells := 0, slots := 0, locals := 0 } : Room) (Pw G [.ref x, .int a, .int i, .int b, .int j, .int n] ws sz) (va_Qi (fun (r : Int32) (u : va_W) => r = (sp_plan S a i b j n).1 ∧ ∃ ad2 ar2, RpX G x sh li ad2 ar2 (sp_plan S a i b j n).2 u) (Bw G ws sz) (va_A ws sz)) 0 0 (va_A ws sz) := by
  refine Met_pw (cc := cX5_plan) (maxL := 7) (ret := (some .int)) (by decide) rfl (Nat.le_of_ble_eq_true rfl) ?_
  intro p e s m below meth c ls hsz S9 hr hlk hnm w hl
  subst hsz
  replace S9 : CallFix p m c cX5_plan 7 s _ wsX5_plan RX5 := S9
  have hx := S9.1
  have hb := S9.2.1
  have hown := S9.2.2.2.1
  have hts := S9.2.2.2.2
  replace hl : lv_has ls 7 [(0, .ref x), (1, .int a), (2, .int i), (3, .int b), (4, .int j), (5, .int n)] := hl
  obtain ⟨k, hk, hk0⟩ := hI.2.2.1
  refine lv_aload_n hx hb dX5_plan_0 rfl (lv_at hl 0 rfl) ?_
  refine r_get (ref := "SpanMover") S9 w hR.1 rfl (by decide +kernel) 2 (by decide) (by decide +kernel) (Or.inl rfl) rfl dX5_plan_1 ?_
  refine lv_bipush (v := 64) hx hb dX5_plan_4 (by decide) ?_
  refine lv_icmp_lt (tgt := 11) hx hb dX5_plan_6 (by decide) (fun c_6 => ?_) (fun c_6 => ?_)
  · refine lv_aload_n hx hb dX5_plan_11 rfl (lv_at hl 0 rfl) ?_
    refine r_get (ref := "SpanMover") S9 w hR.1 rfl (by decide +kernel) 2 (by decide) (by decide +kernel) (Or.inl rfl) rfl dX5_plan_12 ?_
    refine lv_iconst (v := 5) hx hb dX5_plan_15 (by decide) ?_
    refine lv_imul hx hb dX5_plan_16 ?_
    refine lv_topi (fun v1 ev1 => ?_)
    refine lv_istore (lv' := [(6, .int v1), (0, .ref x), (1, .int a), (2, .int i), (3, .int b), (4, .int j), (5, .int n)]) hx hb dX5_plan_17 hl (by decide) rfl (fun ls hl => ?_)
    refine lv_aload_n hx hb dX5_plan_19 rfl (lv_at hl 1 rfl) ?_
    refine r_get (ref := "SpanMover") S9 w hR.1 rfl (by decide +kernel) 1 (by decide) (by decide +kernel) (Or.inl rfl) rfl dX5_plan_20 ?_
    refine lv_iload hx hb dX5_plan_23 (lv_at hl 0 rfl) ?_
    refine lv_iload_n hx hb dX5_plan_25 rfl (lv_at hl 2 rfl) ?_
    have hk4 : k < 64 := by rw [hk0] at c_6; exact (nI_ltI (b := 64) (by omega) (by decide)).mp c_6
    have x0 : v1 = nI (k * 5) := by rw [ev1, hk0]; exact pk_mul k 5
    refine r_iast S9 w hR.2.2.1 (by rw [x0]; exact vp_in_nI (by omega) (by decide)) dX5_plan_26 (fun wst0 Ht0 lct0 ut0 wt0 => ?_)
    have hRt0 := RpX.lf (f := upd (s_l S) (k * 5) a) w.2.1 hR ut0 (by rw [cl_nI x0 (by omega)] <;> rfl)
    replace hRt0 : RpX G x sh li ad ar (s_u S, s_o S, s_s S, upd (s_l S) (k * 5) a, s_c S) wst0 := hRt0
    have hxt0 : hp wst0 x (.inr (3, [.ref sh, .ref li, .int (s_c S 0), .int (s_c S 1), .int (s_c S 2), .int (s_c S 3), .int (s_c S 4), .int (s_c S 5), .int (s_c S 6)])) := hRt0.1
    refine lv_aload_n hx hb dX5_plan_27 rfl (lv_at hl 1 rfl) ?_
    refine r_get (ref := "SpanMover") S9 wt0 hxt0 rfl (by decide +kernel) 1 (by decide) (by decide +kernel) (Or.inl rfl) rfl dX5_plan_28 ?_
    refine lv_iload hx hb dX5_plan_31 (lv_at hl 0 rfl) ?_
    refine lv_iconst (v := 1) hx hb dX5_plan_33 (by decide) ?_
    refine lv_iadd hx hb dX5_plan_34 ?_
    refine lv_topi (fun v2 ev2 => ?_)
    refine lv_iload_n hx hb dX5_plan_35 rfl (lv_at hl 3 rfl) ?_
    have x1 : v2 = nI (k * 5 + 1) := by rw [ev2, x0]; exact nI_add (k * 5) 1
    refine r_iast S9 wt0 hRt0.2.2.1 (by rw [x1]; exact vp_in_nI (by omega) (by decide)) dX5_plan_36 (fun wst1 Ht1 lct1 ut1 wt1 => ?_)
    have hRt1 := RpX.lf (f := upd (upd (s_l S) (k * 5) a) (k * 5 + 1) i) wt0.2.1 hRt0 ut1 (by rw [cl_nI x1 (by omega)] <;> rfl)
    replace hRt1 : RpX G x sh li ad ar (s_u S, s_o S, s_s S, upd (upd (s_l S) (k * 5) a) (k * 5 + 1) i, s_c S) wst1 := hRt1
    have hxt1 : hp wst1 x (.inr (3, [.ref sh, .ref li, .int (s_c S 0), .int (s_c S 1), .int (s_c S 2), .int (s_c S 3), .int (s_c S 4), .int (s_c S 5), .int (s_c S 6)])) := hRt1.1
    refine lv_aload_n hx hb dX5_plan_37 rfl (lv_at hl 1 rfl) ?_
    refine r_get (ref := "SpanMover") S9 wt1 hxt1 rfl (by decide +kernel) 1 (by decide) (by decide +kernel) (Or.inl rfl) rfl dX5_plan_38 ?_
    refine lv_iload hx hb dX5_plan_41 (lv_at hl 0 rfl) ?_
    refine lv_iconst (v := 2) hx hb dX5_plan_43 (by decide) ?_
    refine lv_iadd hx hb dX5_plan_44 ?_
    refine lv_topi (fun v3 ev3 => ?_)
    refine lv_iload_n hx hb dX5_plan_45 rfl (lv_at hl 4 rfl) ?_
    have x2 : v3 = nI (k * 5 + 2) := by rw [ev3, x0]; exact nI_add (k * 5) 2
    refine r_iast S9 wt1 hRt1.2.2.1 (by rw [x2]; exact vp_in_nI (by omega) (by decide)) dX5_plan_46 (fun wst2 Ht2 lct2 ut2 wt2 => ?_)
    have hRt2 := RpX.lf (f := upd (upd (upd (s_l S) (k * 5) a) (k * 5 + 1) i) (k * 5 + 2) b) wt1.2.1 hRt1 ut2 (by rw [cl_nI x2 (by omega)] <;> rfl)
    replace hRt2 : RpX G x sh li ad ar (s_u S, s_o S, s_s S, upd (upd (upd (s_l S) (k * 5) a) (k * 5 + 1) i) (k * 5 + 2) b, s_c S) wst2 := hRt2
    have hxt2 : hp wst2 x (.inr (3, [.ref sh, .ref li, .int (s_c S 0), .int (s_c S 1), .int (s_c S 2), .int (s_c S 3), .int (s_c S 4), .int (s_c S 5), .int (s_c S 6)])) := hRt2.1
    refine lv_aload_n hx hb dX5_plan_47 rfl (lv_at hl 1 rfl) ?_
    refine r_get (ref := "SpanMover") S9 wt2 hxt2 rfl (by decide +kernel) 1 (by decide) (by decide +kernel) (Or.inl rfl) rfl dX5_plan_48 ?_
    refine lv_iload hx hb dX5_plan_51 (lv_at hl 0 rfl) ?_
    refine lv_iconst (v := 3) hx hb dX5_plan_53 (by decide) ?_
    refine lv_iadd hx hb dX5_plan_54 ?_
    refine lv_topi (fun v4 ev4 => ?_)
    refine lv_iload hx hb dX5_plan_55 (lv_at hl 5 rfl) ?_
    have x3 : v4 = nI (k * 5 + 3) := by rw [ev4, x0]; exact nI_add (k * 5) 3
    refine r_iast S9 wt2 hRt2.2.2.1 (by rw [x3]; exact vp_in_nI (by omega) (by decide)) dX5_plan_57 (fun wst3 Ht3 lct3 ut3 wt3 => ?_)
    have hRt3 := RpX.lf (f := upd (upd (upd (upd (s_l S) (k * 5) a) (k * 5 + 1) i) (k * 5 + 2) b) (k * 5 + 3) j) wt2.2.1 hRt2 ut3 (by rw [cl_nI x3 (by omega)] <;> rfl)
    replace hRt3 : RpX G x sh li ad ar (s_u S, s_o S, s_s S, upd (upd (upd (upd (s_l S) (k * 5) a) (k * 5 + 1) i) (k * 5 + 2) b) (k * 5 + 3) j, s_c S) wst3 := hRt3
    have hxt3 : hp wst3 x (.inr (3, [.ref sh, .ref li, .int (s_c S 0), .int (s_c S 1), .int (s_c S 2), .int (s_c S 3), .int (s_c S 4), .int (s_c S 5), .int (s_c S 6)])) := hRt3.1
    refine lv_aload_n hx hb dX5_plan_58 rfl (lv_at hl 1 rfl) ?_
    refine r_get (ref := "SpanMover") S9 wt3 hxt3 rfl (by decide +kernel) 1 (by decide) (by decide +kernel) (Or.inl rfl) rfl dX5_plan_59 ?_
    refine lv_iload hx hb dX5_plan_62 (lv_at hl 0 rfl) ?_
    refine lv_iconst (v := 4) hx hb dX5_plan_64 (by decide) ?_
    refine lv_iadd hx hb dX5_plan_65 ?_
    refine lv_topi (fun v5 ev5 => ?_)
    refine lv_iload hx hb dX5_plan_66 (lv_at hl 6 rfl) ?_
    have x4 : v5 = nI (k * 5 + 4) := by rw [ev5, x0]; exact nI_add (k * 5) 4
    refine r_iast S9 wt3 hRt3.2.2.1 (by rw [x4]; exact vp_in_nI (by omega) (by decide)) dX5_plan_68 (fun wst4 Ht4 lct4 ut4 wt4 => ?_)
    have hRt4 := RpX.lf (f := upd (upd (upd (upd (upd (s_l S) (k * 5) a) (k * 5 + 1) i) (k * 5 + 2) b) (k * 5 + 3) j) (k * 5 + 4) n) wt3.2.1 hRt3 ut4 (by rw [cl_nI x4 (by omega)] <;> rfl)
    replace hRt4 : RpX G x sh li ad ar (s_u S, s_o S, s_s S, upd (upd (upd (upd (upd (s_l S) (k * 5) a) (k * 5 + 1) i) (k * 5 + 2) b) (k * 5 + 3) j) (k * 5 + 4) n, s_c S) wst4 := hRt4
    have hxt4 : hp wst4 x (.inr (3, [.ref sh, .ref li, .int (s_c S 0), .int (s_c S 1), .int (s_c S 2), .int (s_c S 3), .int (s_c S 4), .int (s_c S 5), .int (s_c S 6)])) := hRt4.1
    refine lv_aload_n hx hb dX5_plan_69 rfl (lv_at hl 1 rfl) ?_
    refine lv_dup hx hb dX5_plan_70 rfl ?_
    refine r_get (ref := "SpanMover") S9 wt4 hxt4 rfl (by decide +kernel) 2 (by decide) (by decide +kernel) (Or.inl rfl) rfl dX5_plan_71 ?_
    refine lv_iconst (v := 1) hx hb dX5_plan_74 (by decide) ?_
    refine lv_iadd hx hb dX5_plan_75 ?_
    refine lv_topi (fun v6 ev6 => ?_)
    refine r_put (ref := "SpanMover") S9 wt4 hRt4.1 rfl (by decide +kernel) tyX5_ok nmX5 2 (by decide) (by decide +kernel) (Or.inl rfl) rfl rfl rfl (Nat.le_of_ble_eq_true rfl) dX5_plan_76 (fun ws8 H8 lc8 u8 w8 => ?_)
    have hR8 := RpX.sc wt4.2.1 hRt4 u8 (oX_set sh li (s_c S) 0 (by decide) v6)
    replace hR8 : RpX G x sh li ad ar (s_u S, s_o S, s_s S, upd (upd (upd (upd (upd (s_l S) (k * 5) a) (k * 5 + 1) i) (k * 5 + 2) b) (k * 5 + 3) j) (k * 5 + 4) n, upd (s_c S) 0 v6) ws8 := hR8
    have hx8 : hp ws8 x (.inr (3, [.ref sh, .ref li, .int v6, .int (s_c S 1), .int (s_c S 2), .int (s_c S 3), .int (s_c S 4), .int (s_c S 5), .int (s_c S 6)])) := hR8.1
    refine lv_aload_n hx hb dX5_plan_79 rfl (lv_at hl 1 rfl) ?_
    refine r_get (ref := "SpanMover") S9 w8 hx8 rfl (by decide +kernel) 2 (by decide) (by decide +kernel) (Or.inl rfl) rfl dX5_plan_80 ?_
    exact ew_i S9 hr hlk w8 (by have hc : (s_c S 0).toNatClampNeg = k := cl_nI hk0 (by omega); have hle : ¬ (64 : Int32) ≤ s_c S 0 := (by rw [ii_le]; rw [ii_lt] at c_6; omega); rw [show sp_plan S a i b j n = (v6, _) from by unfold sp_plan; rw [if_neg hle, hc, ev6]]; exact ⟨rfl, ad, ar, by rw [← ev6]; exact hR8⟩) dX5_plan_83 (by decide) (by decide)
  · refine lv_iconst (v := (-1)) hx hb dX5_plan_9 (by decide) ?_
    exact ew_i S9 hr hlk w (by have hle : (64 : Int32) ≤ s_c S 0 := (by rw [ii_le]; rw [ii_lt] at c_6; omega); rw [show sp_plan S a i b j n = (-1, S) from by unfold sp_plan; rw [if_pos hle]]; exact ⟨rfl, ad, ar, hR⟩) dX5_plan_10 (by decide) (by decide)
