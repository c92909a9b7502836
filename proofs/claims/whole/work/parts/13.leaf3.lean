set_option maxHeartbeats 4000000 in
set_option maxRecDepth 100000 in
theorem c_put (l : Launch) {G : Gt} {ws : va_W} (sz : Nat) {n k a b : Nat} {dk : Int32} {kd : Int64} (ha : hp ws a (.inr (0, [.int (nI n), .int (nI k), .ref b, .int dk, .long kd]))) (hk : k ≤ 3) {f : Nat → Int64} (hb0 : hp ws b (aJ G n f)) (i : Int32) (hi : vp_in i n) (v : Int64) : Met l yX1_put wsX1_put ({ frames := 1, cells := 0, slots := 0, locals := 22 } : Room) (Pw G [.ref a, .int i, .long v] ws sz) (va_Qv (fun (u : va_W) => ∃ ws1, hu ws b (aJ G n (vp_updL f i.toNatClampNeg (narK k v))) ws1 ∧ hu ws1 a (.inr (0, [.int (nI n), .int (nI k), .ref b, .int 0, .long kd])) u) (Bw G ws sz) (va_A ws sz)) 0 0 (va_A ws sz) := by
  refine Met_pw (cc := cX1_put) (maxL := 4) (ret := none) (by decide) rfl (Nat.le_of_ble_eq_true rfl) ?_
  intro p e s m below meth c ls hsz S9 hr hlk hnm w hl
  subst hsz
  replace S9 : CallFix p m c cX1_put 4 s _ wsX1_put RX1 := S9
  have hx := S9.1
  have hb := S9.2.1
  have hown := S9.2.2.2.1
  have hts := S9.2.2.2.2
  replace hl : lv_has ls 4 [(0, .ref a), (1, .int i), (2, .long v)] := hl
  refine lv_aload_n hx hb dX1_put_0 rfl (lv_at hl 0 rfl) ?_
  refine r_get (ref := "SpanMover$NumberRow") S9 w ha rfl (by decide +kernel) 2 (by decide) (by decide +kernel) (Or.inl rfl) rfl dX1_put_1 ?_
  refine lv_iload_n hx hb dX1_put_4 rfl (lv_at hl 1 rfl) ?_
  refine lv_aload_n hx hb dX1_put_5 rfl (lv_at hl 0 rfl) ?_
  refine lv_lload_n hx hb dX1_put_6 rfl (lv_at hl 2 rfl) ?_
  refine k_vl S9 w (c_narrowed l _ ha hk v) ha rfl (cwV 1 hts gX1_put_X1_narrowed rfl rfl rfl (by decide +kernel) ⟨Nat.le_of_ble_eq_true rfl, Nat.le_of_ble_eq_true rfl⟩) rfl hl.1 rfl (Nat.le_of_ble_eq_true rfl) dX1_put_7 ⟨Nat.le_of_ble_eq_true rfl, Nat.le_of_ble_eq_true rfl⟩ (fun v7 e7 => ?_)
  refine r_last S9 w hb0 hi dX1_put_10 (fun ws8 H8 lc8 u8 w8 => ?_)
  have ha8 := u8.keep (hp_ne_of w.2.1 ha hb0 (fun q => by cases q)) ha
  refine lv_aload_n hx hb dX1_put_11 rfl (lv_at hl 0 rfl) ?_
  refine lv_iconst (v := 0) hx hb dX1_put_12 (by decide) ?_
  refine r_put (ref := "SpanMover$NumberRow") S9 w8 ha8 rfl (by decide +kernel) tyX1_ok nmX1 3 (by decide) (by decide +kernel) (Or.inl rfl) rfl rfl rfl (Nat.le_of_ble_eq_true rfl) dX1_put_13 (fun ws1 H1 lc1 u1 w1 => ?_)
  have f1 : hp ws1 a (.inr (0, [.int (nI n), .int (nI k), .ref b, .int 0, .long kd])) := u1.1
  exact ew_v S9 hr hlk w1 (⟨ws8, by rw [← e7]; exact u8, u1⟩) dX1_put_16 (by decide) (by decide)

set_option maxHeartbeats 4000000 in
set_option maxRecDepth 100000 in
theorem c_takeSpan (l : Launch) {G : Gt} {ws : va_W} (sz : Nat) {n k a b : Nat} {dk : Int32} {kd : Int64} (ha : hp ws a (.inr (0, [.int (nI n), .int (nI k), .ref b, .int dk, .long kd]))) {f : Nat → Int64} (hb0 : hp ws b (aJ G n f)) {n9 k9 a9 b9 : Nat} {dk9 : Int32} {kd9 : Int64} (ha9 : hp ws a9 (.inr (0, [.int (nI n9), .int (nI k9), .ref b9, .int dk9, .long kd9]))) {f9 : Nat → Int64} (hb9 : hp ws b9 (aJ G n9 f9)) (j i c0 : Int32) (h1 : ¬ i < 0) (h2 : ¬ j < 0) (h3 : ¬ c0 < 0) (h4 : i.toNatClampNeg + c0.toNatClampNeg ≤ n9) (h5 : j.toNatClampNeg + c0.toNatClampNeg ≤ n) : Met l yX1_takeSpan wsX1_takeSpan ({ frames := 1, cells := 0, slots := 0, locals := 40 } : Room) (Pw G [.ref a, .int j, .ref a9, .int i, .int c0] ws sz) (va_Qv (fun (u : va_W) => ∃ ws1, hu ws b (aJ G n (va_cpy f9 f i.toNatClampNeg j.toNatClampNeg c0.toNatClampNeg)) ws1 ∧ hu ws1 a (.inr (0, [.int (nI n), .int (nI k), .ref b, .int 0, .long kd])) u) (Bw G ws sz) (va_A ws sz)) 0 0 (va_A ws sz) := by
  refine Met_pw (cc := cX1_takeSpan) (maxL := 5) (ret := none) (by decide) rfl (Nat.le_of_ble_eq_true rfl) ?_
  intro p e s m below meth c ls hsz S9 hr hlk hnm w hl
  subst hsz
  replace S9 : CallFix p m c cX1_takeSpan 5 s _ wsX1_takeSpan RX1 := S9
  have hx := S9.1
  have hb := S9.2.1
  have hown := S9.2.2.2.1
  have hts := S9.2.2.2.2
  replace hl : lv_has ls 5 [(0, .ref a), (1, .int j), (2, .ref a9), (3, .int i), (4, .int c0)] := hl
  refine lv_aload_n hx hb dX1_takeSpan_0 rfl (lv_at hl 2 rfl) ?_
  refine r_get (ref := "SpanMover$NumberRow") S9 w ha9 rfl (by decide +kernel) 2 (by decide) (by decide +kernel) (Or.inl rfl) rfl dX1_takeSpan_1 ?_
  refine lv_iload_n hx hb dX1_takeSpan_4 rfl (lv_at hl 3 rfl) ?_
  refine lv_aload_n hx hb dX1_takeSpan_5 rfl (lv_at hl 0 rfl) ?_
  refine r_get (ref := "SpanMover$NumberRow") S9 w ha rfl (by decide +kernel) 2 (by decide) (by decide +kernel) (Or.inl rfl) rfl dX1_takeSpan_6 ?_
  refine lv_iload_n hx hb dX1_takeSpan_9 rfl (lv_at hl 1 rfl) ?_
  refine lv_iload hx hb dX1_takeSpan_10 (lv_at hl 4 rfl) ?_
  refine r_cpyJ S9 w hl.1 (by decide +kernel) hb9 hb0 h1 h2 h3 h4 h5 (Nat.le_of_ble_eq_true rfl) (Nat.le_of_ble_eq_true rfl) dX1_takeSpan_12 (fun ws8 H8 lc8 u8 w8 => ?_)
  have ha8 := u8.keep (hp_ne_of w.2.1 ha hb0 (fun q => by cases q)) ha
  refine lv_aload_n hx hb dX1_takeSpan_15 rfl (lv_at hl 0 rfl) ?_
  refine lv_iconst (v := 0) hx hb dX1_takeSpan_16 (by decide) ?_
  refine r_put (ref := "SpanMover$NumberRow") S9 w8 ha8 rfl (by decide +kernel) tyX1_ok nmX1 3 (by decide) (by decide +kernel) (Or.inl rfl) rfl rfl rfl (Nat.le_of_ble_eq_true rfl) dX1_takeSpan_17 (fun ws1 H1 lc1 u1 w1 => ?_)
  have f1 : hp ws1 a (.inr (0, [.int (nI n), .int (nI k), .ref b, .int 0, .long kd])) := u1.1
  exact ew_v S9 hr hlk w1 (⟨ws8, u8, u1⟩) dX1_takeSpan_20 (by decide) (by decide)

set_option maxHeartbeats 4000000 in
set_option maxRecDepth 100000 in
theorem c_putObject_N (l : Launch) {G : Gt} {ws : va_W} (sz : Nat) {n k a b : Nat} (ha : hp ws a (.inr (1, [.int (nI n), .int (nI k), .ref b]))) {f : Nat → Option Nat} (hb0 : hp ws b (aT G n f)) (i : Int32) (hi : vp_in i n) : Met l yX2_putObject wsX2_putObject ({ frames := 0, cells := 0, slots := 0, locals := 0 } : Room) (Pw G [.ref a, .int i, .null] ws sz) (va_Qv (fun (u : va_W) => hu ws b (aT G n (va_up f i.toNatClampNeg none)) u) (Bw G ws sz) (va_A ws sz)) 0 0 (va_A ws sz) := by
  refine Met_pw (cc := cX2_putObject) (maxL := 3) (ret := none) (by decide) rfl (Nat.le_of_ble_eq_true rfl) ?_
  intro p e s m below meth c ls hsz S9 hr hlk hnm w hl
  subst hsz
  replace S9 : CallFix p m c cX2_putObject 3 s _ wsX2_putObject RX2 := S9
  have hx := S9.1
  have hb := S9.2.1
  have hown := S9.2.2.2.1
  have hts := S9.2.2.2.2
  replace hl : lv_has ls 3 [(0, .ref a), (1, .int i), (2, .null)] := hl
  refine lv_aload_n hx hb dX2_putObject_0 rfl (lv_at hl 0 rfl) ?_
  refine r_get (ref := "SpanMover$ObjectRow") S9 w ha rfl (by decide +kernel) 2 (by decide) (by decide +kernel) (Or.inl rfl) rfl dX2_putObject_1 ?_
  refine lv_iload_n hx hb dX2_putObject_4 rfl (lv_at hl 1 rfl) ?_
  refine lv_aload_nN hx hb dX2_putObject_5 rfl (lv_at hl 2 rfl) ?_
  refine r_aast (r := none) S9 w hb0 (fun z hz => by cases hz) hi dX2_putObject_6 (fun ws8 H8 lc8 u8 w8 => ?_)
  exact ew_v S9 hr hlk w8 (u8) dX2_putObject_7 (by decide) (by decide)

set_option maxHeartbeats 4000000 in
set_option maxRecDepth 100000 in
theorem c_putObject_S (l : Launch) {G : Gt} {ws : va_W} (sz : Nat) {n k a b : Nat} (ha : hp ws a (.inr (1, [.int (nI n), .int (nI k), .ref b]))) {f : Nat → Option Nat} (hb0 : hp ws b (aT G n f)) (i : Int32) (hi : vp_in i n) {z ci : Nat} {fs : List Value} (hc9 : ci < 3) (hz9 : hp ws z (.inr (ci, fs))) : Met l yX2_putObject wsX2_putObject ({ frames := 0, cells := 0, slots := 0, locals := 0 } : Room) (Pw G [.ref a, .int i, .ref z] ws sz) (va_Qv (fun (u : va_W) => hu ws b (aT G n (va_up f i.toNatClampNeg (some z))) u) (Bw G ws sz) (va_A ws sz)) 0 0 (va_A ws sz) := by
  refine Met_pw (cc := cX2_putObject) (maxL := 3) (ret := none) (by decide) rfl (Nat.le_of_ble_eq_true rfl) ?_
  intro p e s m below meth c ls hsz S9 hr hlk hnm w hl
  subst hsz
  replace S9 : CallFix p m c cX2_putObject 3 s _ wsX2_putObject RX2 := S9
  have hx := S9.1
  have hb := S9.2.1
  have hown := S9.2.2.2.1
  have hts := S9.2.2.2.2
  replace hl : lv_has ls 3 [(0, .ref a), (1, .int i), (2, .ref z)] := hl
  refine lv_aload_n hx hb dX2_putObject_0 rfl (lv_at hl 0 rfl) ?_
  refine r_get (ref := "SpanMover$ObjectRow") S9 w ha rfl (by decide +kernel) 2 (by decide) (by decide +kernel) (Or.inl rfl) rfl dX2_putObject_1 ?_
  refine lv_iload_n hx hb dX2_putObject_4 rfl (lv_at hl 1 rfl) ?_
  refine lv_aload_n hx hb dX2_putObject_5 rfl (lv_at hl 2 rfl) ?_
  refine r_aast (r := some z) S9 w hb0 (fun z hz => by cases hz; exact w.any hz9 hc9) hi dX2_putObject_6 (fun ws8 H8 lc8 u8 w8 => ?_)
  exact ew_v S9 hr hlk w8 (u8) dX2_putObject_7 (by decide) (by decide)

set_option maxHeartbeats 4000000 in
set_option maxRecDepth 100000 in
theorem c_digestOfNumbers (l : Launch) {G : Gt} {ws : va_W} (sz : Nat) {n k a b : Nat} {dk : Int32} {kd : Int64} (ha : hp ws a (.inr (0, [.int (nI n), .int (nI k), .ref b, .int dk, .long kd]))) (hn : n < 2 ^ 31) {f : Nat → Int64} (hb0 : hp ws b (aJ G n f)) (hq : dk = 0 ∨ dk = 1 ∧ kd = dgF k f n) : Met l yX1_digestOfNumbers wsX1_digestOfNumbers ({ frames := 0, cells := 0, slots := 0, locals := 0 } : Room) (Pw G [.ref a] ws sz) (va_Ql (fun (r : Int64) (u : va_W) => r = dgF k f n ∧ hu ws a (.inr (0, [.int (nI n), .int (nI k), .ref b, .int 1, .long (dgF k f n)])) u) (Bw G ws sz) (va_A ws sz)) 0 0 (va_A ws sz) := by
  refine Met_pw (cc := cX1_digestOfNumbers) (maxL := 8) (ret := (some .long)) (by decide) rfl (Nat.le_of_ble_eq_true rfl) ?_
  intro p e s m below meth c ls hsz S9 hr hlk hnm w hl
  subst hsz
  replace S9 : CallFix p m c cX1_digestOfNumbers 8 s _ wsX1_digestOfNumbers RX1 := S9
  have hx := S9.1
  have hb := S9.2.1
  have hown := S9.2.2.2.1
  have hts := S9.2.2.2.2
  replace hl : lv_has ls 8 [(0, .ref a)] := hl
  refine lv_aload_n hx hb dX1_digestOfNumbers_0 rfl (lv_at hl 0 rfl) ?_
  refine r_get (ref := "SpanMover$NumberRow") S9 w ha rfl (by decide +kernel) 3 (by decide) (by decide +kernel) (Or.inl rfl) rfl dX1_digestOfNumbers_1 ?_
  refine lv_if_ne (tgt := 65) hx hb dX1_digestOfNumbers_4 (by decide) (fun c_4 => ?_) (fun c_4 => ?_)
  · refine lv_aload_n hx hb dX1_digestOfNumbers_65 rfl (lv_at hl 0 rfl) ?_
    refine r_get (ref := "SpanMover$NumberRow") S9 w ha rfl (by decide +kernel) 4 (by decide) (by decide +kernel) (Or.inl rfl) rfl dX1_digestOfNumbers_66 ?_
    rcases hq with hq | ⟨hq, hq2⟩
    · exact absurd hq c_4
    · subst hq; subst hq2
      exact ew_l S9 hr hlk w ⟨rfl, hu_rfl ha⟩ dX1_digestOfNumbers_69 (by decide) (by decide)
  · refine lv_aload_n hx hb dX1_digestOfNumbers_7 rfl (lv_at hl 0 rfl) ?_
    refine r_get (ref := "SpanMover$NumberRow") S9 w ha rfl (by decide +kernel) 1 (by decide) (by decide +kernel) (Or.inr (by decide +kernel)) rfl dX1_digestOfNumbers_8 ?_
    refine lv_iconst (v := 1) hx hb dX1_digestOfNumbers_11 (by decide) ?_
    refine lv_iadd hx hb dX1_digestOfNumbers_12 ?_
    refine lv_topi (fun v1 ev1 => ?_)
    obtain ⟨v2, ev2⟩ : ∃ z : Int64, Int32.toInt64 v1 = z := ⟨_, rfl⟩
    refine lv_i2l (v := v2) hx hb dX1_digestOfNumbers_13 ev2 ?_
    refine lv_lstore_n (lv' := [(1, .long v2), (0, .ref a)]) hx hb dX1_digestOfNumbers_14 rfl hl (by decide) rfl (fun ls hl => ?_)
    refine lv_aload_n hx hb dX1_digestOfNumbers_15 rfl (lv_at hl 1 rfl) ?_
    refine r_get (ref := "SpanMover$NumberRow") S9 w ha rfl (by decide +kernel) 2 (by decide) (by decide +kernel) (Or.inl rfl) rfl dX1_digestOfNumbers_16 ?_
    refine lv_astore_n (lv' := [(3, .ref b), (1, .long v2), (0, .ref a)]) hx hb dX1_digestOfNumbers_19 rfl hl (by decide) rfl (fun ls hl => ?_)
    refine lv_aload_n hx hb dX1_digestOfNumbers_20 rfl (lv_at hl 0 rfl) ?_
    refine r_llen S9 w hb0 dX1_digestOfNumbers_21 ?_
    refine lv_istore (lv' := [(4, .int (nI n)), (3, .ref b), (1, .long v2), (0, .ref a)]) hx hb dX1_digestOfNumbers_22 hl (by decide) rfl (fun ls hl => ?_)
    refine lv_iconst (v := 0) hx hb dX1_digestOfNumbers_24 (by decide) ?_
    refine lv_istore (lv' := [(5, .int 0), (4, .int (nI n)), (3, .ref b), (1, .long v2), (0, .ref a)]) hx hb dX1_digestOfNumbers_25 hl (by decide) rfl (fun ls hl => ?_)
    obtain ⟨i, hi, hv, hd⟩ : ∃ i : Nat, i ≤ n ∧ (0 : Int32) = nI i ∧ v2 = dgF k f i := ⟨0, by omega, rfl, by rw [← ev2, ev1]; rfl⟩
    obtain ⟨v, hv0⟩ : ∃ v : Int32, v = 0 := ⟨_, rfl⟩
    obtain ⟨d, hd0⟩ : ∃ d : Int64, d = v2 := ⟨_, rfl⟩
    replace hl : lv_has ls 8 [(5, .int v), (4, .int (nI n)), (3, .ref b), (1, .long d), (0, .ref a)] := by rw [hv0, hd0]; exact hl
    rw [← hv0] at hv
    rw [← hd0] at hd
    clear hv0 hd0
    obtain ⟨t, ht⟩ : ∃ t, n - i < t := ⟨_, Nat.lt_succ_self _⟩
    induction t generalizing i v d ls with
    | zero => exact absurd ht (Nat.not_lt_zero _)
    | succ t ih =>
      refine lv_iload hx hb dX1_digestOfNumbers_27 (lv_at hl 0 rfl) ?_
      refine lv_iload hx hb dX1_digestOfNumbers_29 (lv_at hl 1 rfl) ?_
      refine lv_icmp_ge (tgt := 55) hx hb dX1_digestOfNumbers_31 (by decide) (fun c_31 => ?_) (fun c_31 => ?_)
      · refine lv_aload_n hx hb dX1_digestOfNumbers_55 rfl (lv_at hl 4 rfl) ?_
        refine lv_lload_n hx hb dX1_digestOfNumbers_56 rfl (lv_at hl 3 rfl) ?_
        have hD : d = dgF k f n := by have h4 := ge_nI hv hi hn c_31; subst h4; exact hd
        refine r_put (ref := "SpanMover$NumberRow") S9 w ha rfl (by decide +kernel) tyX1_ok nmX1 4 (by decide) (by decide +kernel) (Or.inl rfl) rfl rfl rfl (Nat.le_of_ble_eq_true rfl) dX1_digestOfNumbers_57 (fun ws3 H3 lc3 u3 w3 => ?_)
        have f3 : hp ws3 a (.inr (0, [.int (nI n), .int (nI k), .ref b, .int dk, .long d])) := u3.1
        refine lv_aload_n hx hb dX1_digestOfNumbers_60 rfl (lv_at hl 4 rfl) ?_
        refine lv_iconst (v := 1) hx hb dX1_digestOfNumbers_61 (by decide) ?_
        refine r_put (ref := "SpanMover$NumberRow") S9 w3 f3 rfl (by decide +kernel) tyX1_ok nmX1 3 (by decide) (by decide +kernel) (Or.inl rfl) rfl rfl rfl (Nat.le_of_ble_eq_true rfl) dX1_digestOfNumbers_62 (fun ws4 H4 lc4 u4 w4 => ?_)
        have f4 : hp ws4 a (.inr (0, [.int (nI n), .int (nI k), .ref b, .int 1, .long d])) := u4.1
        refine lv_aload_n hx hb dX1_digestOfNumbers_65 rfl (lv_at hl 4 rfl) ?_
        refine r_get (ref := "SpanMover$NumberRow") S9 w4 f4 rfl (by decide +kernel) 4 (by decide) (by decide +kernel) (Or.inl rfl) rfl dX1_digestOfNumbers_66 ?_
        exact ew_l S9 hr hlk w4 ⟨hD, by have h9 := hu_again u3 u4; rw [hD] at h9; exact h9⟩ dX1_digestOfNumbers_69 (by decide) (by decide)
      · refine lv_aload_n hx hb dX1_digestOfNumbers_34 rfl (lv_at hl 2 rfl) ?_
        refine lv_iload hx hb dX1_digestOfNumbers_35 (lv_at hl 0 rfl) ?_
        refine r_lald S9 w hb0 (in_nI hv hi hn c_31) dX1_digestOfNumbers_37 ?_
        refine lv_topl (fun v5 ev5 => ?_)
        refine lv_lstore (lv' := [(6, .long v5), (5, .int v), (4, .int (nI n)), (3, .ref b), (1, .long d), (0, .ref a)]) hx hb dX1_digestOfNumbers_38 hl (by decide) rfl (fun ls hl => ?_)
        refine lv_ldc2 (v := 31) hx hb hown (hts (.constantLong RX1 33 (31)) (by decide +kernel)) dX1_digestOfNumbers_40 ?_
        refine lv_lload_n hx hb dX1_digestOfNumbers_43 rfl (lv_at hl 4 rfl) ?_
        refine lv_lmul hx hb dX1_digestOfNumbers_44 ?_
        refine lv_topl (fun v6 ev6 => ?_)
        refine lv_lload hx hb dX1_digestOfNumbers_45 (lv_at hl 0 rfl) ?_
        refine lv_ladd hx hb dX1_digestOfNumbers_47 ?_
        refine lv_topl (fun v7 ev7 => ?_)
        refine lv_lstore_n (lv' := [(1, .long v7), (6, .long v5), (5, .int v), (4, .int (nI n)), (3, .ref b), (0, .ref a)]) hx hb dX1_digestOfNumbers_48 rfl hl (by decide) rfl (fun ls hl => ?_)
        obtain ⟨v8, ev8⟩ : ∃ z : Int32, z = v + 1 := ⟨_, rfl⟩
        refine lv_iinc (v := v8) (lv' := [(5, .int v8), (1, .long v7), (6, .long v5), (4, .int (nI n)), (3, .ref b), (0, .ref a)]) hx hb dX1_digestOfNumbers_49 hl (k := 2) rfl (by rw [ev8]; rfl) (by decide) rfl (fun ls hl => ?_)
        refine lv_goto (tgt := 27) hx hb dX1_digestOfNumbers_52 (by decide) ?_
        have hi4 := nge_nI hv hi hn c_31
        exact ih (ls := ls) (i := i + 1) (v := v8) (d := v7) (hi := by omega) (hv := by rw [ev8, hv]; exact nI_1 i) (hd := by rw [ev7, ev6, hd, ev5, cl_nI hv (by omega)]; rfl) (hl := lv_sub hl [0, 3, 4, 1, 5] rfl) (ht := by omega)

set_option maxHeartbeats 4000000 in
set_option maxRecDepth 100000 in
theorem c_refusalOfRows_NN (l : Launch) {G : Gt} {ws : va_W} (sz : Nat)  : Met l yX5_refusalOfRows wsX5_refusalOfRows ({ frames := 0, cells := 0, slots := 0, locals := 0 } : Room) (Pw G [.null, .null] ws sz) (vp_Si (fun r : Int32 => r = 1)) 0 0 (fun _ => False) := by
  refine Met_pw (cc := cX5_refusalOfRows) (maxL := 3) (ret := (some .int)) (by decide) rfl (Nat.le_of_ble_eq_true rfl) ?_
  intro p e s m below meth c ls hsz S9 hr hlk hnm w hl
  subst hsz
  replace S9 : CallFix p m c cX5_refusalOfRows 3 s _ wsX5_refusalOfRows RX5 := S9
  have hx := S9.1
  have hb := S9.2.1
  have hown := S9.2.2.2.1
  have hts := S9.2.2.2.2
  replace hl : lv_has ls 3 [(0, .null), (1, .null)] := hl
  refine lv_aload_nN hx hb dX5_refusalOfRows_0 rfl (lv_at hl 0 rfl) ?_
  refine lv_ifnullN (tgt := 8) hx hb dX5_refusalOfRows_1 (by decide) ?_
  refine lv_iconst (v := 1) hx hb dX5_refusalOfRows_8 (by decide) ?_
  exact e_i S9 hr hlk (rfl) dX5_refusalOfRows_9

set_option maxHeartbeats 4000000 in
set_option maxRecDepth 100000 in
theorem c_refusalOfRows_NS (l : Launch) {G : Gt} {ws : va_W} (sz : Nat) (z : Nat) : Met l yX5_refusalOfRows wsX5_refusalOfRows ({ frames := 0, cells := 0, slots := 0, locals := 0 } : Room) (Pw G [.null, .ref z] ws sz) (vp_Si (fun r : Int32 => r = 1)) 0 0 (fun _ => False) := by
  refine Met_pw (cc := cX5_refusalOfRows) (maxL := 3) (ret := (some .int)) (by decide) rfl (Nat.le_of_ble_eq_true rfl) ?_
  intro p e s m below meth c ls hsz S9 hr hlk hnm w hl
  subst hsz
  replace S9 : CallFix p m c cX5_refusalOfRows 3 s _ wsX5_refusalOfRows RX5 := S9
  have hx := S9.1
  have hb := S9.2.1
  have hown := S9.2.2.2.1
  have hts := S9.2.2.2.2
  replace hl : lv_has ls 3 [(0, .null), (1, .ref z)] := hl
  refine lv_aload_nN hx hb dX5_refusalOfRows_0 rfl (lv_at hl 0 rfl) ?_
  refine lv_ifnullN (tgt := 8) hx hb dX5_refusalOfRows_1 (by decide) ?_
  refine lv_iconst (v := 1) hx hb dX5_refusalOfRows_8 (by decide) ?_
  exact e_i S9 hr hlk (rfl) dX5_refusalOfRows_9

set_option maxHeartbeats 4000000 in
set_option maxRecDepth 100000 in
theorem c_refusalOfRows_M (l : Launch) {G : Gt} {ws : va_W} (sz : Nat) (a : Nat) : Met l yX5_refusalOfRows wsX5_refusalOfRows ({ frames := 0, cells := 0, slots := 0, locals := 0 } : Room) (Pw G [.ref a, .null] ws sz) (vp_Si (fun r : Int32 => r = 1)) 0 0 (fun _ => False) := by
  refine Met_pw (cc := cX5_refusalOfRows) (maxL := 3) (ret := (some .int)) (by decide) rfl (Nat.le_of_ble_eq_true rfl) ?_
  intro p e s m below meth c ls hsz S9 hr hlk hnm w hl
  subst hsz
  replace S9 : CallFix p m c cX5_refusalOfRows 3 s _ wsX5_refusalOfRows RX5 := S9
  have hx := S9.1
  have hb := S9.2.1
  have hown := S9.2.2.2.1
  have hts := S9.2.2.2.2
  replace hl : lv_has ls 3 [(0, .ref a), (1, .null)] := hl
  refine lv_aload_n hx hb dX5_refusalOfRows_0 rfl (lv_at hl 0 rfl) ?_
  refine lv_ifnull hx hb dX5_refusalOfRows_1 ?_
  refine lv_aload_nN hx hb dX5_refusalOfRows_4 rfl (lv_at hl 1 rfl) ?_
  refine lv_ifnonnullN hx hb dX5_refusalOfRows_5 ?_
  refine lv_iconst (v := 1) hx hb dX5_refusalOfRows_8 (by decide) ?_
  exact e_i S9 hr hlk (rfl) dX5_refusalOfRows_9

set_option maxHeartbeats 4000000 in
set_option maxRecDepth 100000 in
theorem c_refusalOfRows_00 (l : Launch) {G : Gt} {ws : va_W} (sz : Nat) {n k a b : Nat} {dk : Int32} {kd : Int64} (ha : hp ws a (.inr (0, [.int (nI n), .int (nI k), .ref b, .int dk, .long kd]))) (h0 : k ≤ 3) {n9 k9 a9 b9 : Nat} {dk9 : Int32} {kd9 : Int64} (ha9 : hp ws a9 (.inr (0, [.int (nI n9), .int (nI k9), .ref b9, .int dk9, .long kd9]))) (h9 : k9 ≤ 3) : Met l yX5_refusalOfRows wsX5_refusalOfRows ({ frames := 0, cells := 0, slots := 0, locals := 0 } : Room) (Pw G [.ref a, .ref a9] ws sz) (vp_Si (fun r : Int32 => r = if 7 ≤ k then 2 else if 7 ≤ k9 then 2 else if (4 ≤ k ∧ 4 ≤ k9) ∨ k = k9 then 0 else 3)) 0 0 (fun _ => False) := by
  refine Met_pw (cc := cX5_refusalOfRows) (maxL := 3) (ret := (some .int)) (by decide) rfl (Nat.le_of_ble_eq_true rfl) ?_
  intro p e s m below meth c ls hsz S9 hr hlk hnm w hl
  subst hsz
  replace S9 : CallFix p m c cX5_refusalOfRows 3 s _ wsX5_refusalOfRows RX5 := S9
  have hx := S9.1
  have hb := S9.2.1
  have hown := S9.2.2.2.1
  have hts := S9.2.2.2.2
  replace hl : lv_has ls 3 [(0, .ref a), (1, .ref a9)] := hl
  refine lv_aload_n hx hb dX5_refusalOfRows_0 rfl (lv_at hl 0 rfl) ?_
  refine lv_ifnull hx hb dX5_refusalOfRows_1 ?_
  refine lv_aload_n hx hb dX5_refusalOfRows_4 rfl (lv_at hl 1 rfl) ?_
  refine lv_ifnonnull (tgt := 10) hx hb dX5_refusalOfRows_5 (by decide) ?_
  refine lv_aload_n hx hb dX5_refusalOfRows_10 rfl (lv_at hl 0 rfl) ?_
  refine r_inst S9 w ha (by decide) 2 (by decide) (by decide +kernel) (v := 0) rfl dX5_refusalOfRows_11 ?_
  refine lv_if_ne (tgt := 24) hx hb dX5_refusalOfRows_14 (by decide) (fun c_14 => absurd c_14 (by decide)) (fun c_14 => ?_)
  refine lv_aload_n hx hb dX5_refusalOfRows_17 rfl (lv_at hl 1 rfl) ?_
  refine r_inst S9 w ha9 (by decide) 2 (by decide) (by decide +kernel) (v := 0) rfl dX5_refusalOfRows_18 ?_
  refine lv_if_eq (tgt := 26) hx hb dX5_refusalOfRows_21 (by decide) (fun c_21 => ?_) (fun c_21 => absurd c_21 (by decide))
  refine lv_aload_n hx hb dX5_refusalOfRows_26 rfl (lv_at hl 0 rfl) ?_
  refine r_inst S9 w ha (by decide) 1 (by decide) (by decide +kernel) (v := 0) rfl dX5_refusalOfRows_27 ?_
  refine lv_if_eq (tgt := 44) hx hb dX5_refusalOfRows_30 (by decide) (fun c_30 => ?_) (fun c_30 => absurd c_30 (by decide))
  refine lv_iconst (v := 0) hx hb dX5_refusalOfRows_44 (by decide) ?_
  refine lv_istore_n (lv' := [(2, .int 0), (0, .ref a), (1, .ref a9)]) hx hb dX5_refusalOfRows_45 rfl hl (by decide) rfl (fun ls hl => ?_)
  refine lv_iload_n hx hb dX5_refusalOfRows_46 rfl (lv_at hl 0 rfl) ?_
  refine lv_if_ne (tgt := 61) hx hb dX5_refusalOfRows_47 (by decide) (fun c_47 => absurd c_47 (by decide)) (fun c_47 => ?_)
  refine lv_aload_n hx hb dX5_refusalOfRows_50 rfl (lv_at hl 1 rfl) ?_
  refine r_get (ref := "SpanMover$Item") S9 w ha rfl (by decide +kernel) 1 (by decide) (by decide +kernel) (Or.inl rfl) rfl dX5_refusalOfRows_51 ?_
  refine lv_aload_n hx hb dX5_refusalOfRows_54 rfl (lv_at hl 2 rfl) ?_
  refine r_get (ref := "SpanMover$Item") S9 w ha9 rfl (by decide +kernel) 1 (by decide) (by decide +kernel) (Or.inl rfl) rfl dX5_refusalOfRows_55 ?_
  refine lv_icmp_ne (tgt := 65) hx hb dX5_refusalOfRows_58 (by decide) (fun c_58 => ?_) (fun c_58 => ?_)
  · refine lv_iconst (v := 3) hx hb dX5_refusalOfRows_65 (by decide) ?_
    exact e_i S9 hr hlk (by rw [nI_lit (by omega) (by omega)] at c_58; have e1 : ¬ 7 ≤ k := (by omega); have e2 : ¬ 7 ≤ k9 := (by omega); have e3 : ¬ (4 ≤ k ∧ 4 ≤ k9) := (by omega); first | (rw [if_neg e1, if_neg e2, if_pos (by omega)]) | (rw [if_neg e1, if_neg e2, if_neg (by omega)])) dX5_refusalOfRows_66
  · refine lv_iconst (v := 0) hx hb dX5_refusalOfRows_61 (by decide) ?_
    refine lv_goto (tgt := 66) hx hb dX5_refusalOfRows_62 (by decide) ?_
    exact e_i S9 hr hlk (by rw [nI_lit (by omega) (by omega)] at c_58; have e1 : ¬ 7 ≤ k := (by omega); have e2 : ¬ 7 ≤ k9 := (by omega); have e3 : ¬ (4 ≤ k ∧ 4 ≤ k9) := (by omega); first | (rw [if_neg e1, if_neg e2, if_pos (by omega)]) | (rw [if_neg e1, if_neg e2, if_neg (by omega)])) dX5_refusalOfRows_66

set_option maxHeartbeats 4000000 in
set_option maxRecDepth 100000 in
theorem c_refusalOfRows_01 (l : Launch) {G : Gt} {ws : va_W} (sz : Nat) {n k a b : Nat} {dk : Int32} {kd : Int64} (ha : hp ws a (.inr (0, [.int (nI n), .int (nI k), .ref b, .int dk, .long kd]))) (h0 : k ≤ 3) {n9 k9 a9 b9 : Nat} (ha9 : hp ws a9 (.inr (1, [.int (nI n9), .int (nI k9), .ref b9]))) (h9 : 4 ≤ k9) (h9l : k9 ≤ 6) : Met l yX5_refusalOfRows wsX5_refusalOfRows ({ frames := 0, cells := 0, slots := 0, locals := 0 } : Room) (Pw G [.ref a, .ref a9] ws sz) (vp_Si (fun r : Int32 => r = if 7 ≤ k then 2 else if 7 ≤ k9 then 2 else if (4 ≤ k ∧ 4 ≤ k9) ∨ k = k9 then 0 else 3)) 0 0 (fun _ => False) := by
  refine Met_pw (cc := cX5_refusalOfRows) (maxL := 3) (ret := (some .int)) (by decide) rfl (Nat.le_of_ble_eq_true rfl) ?_
  intro p e s m below meth c ls hsz S9 hr hlk hnm w hl
  subst hsz
  replace S9 : CallFix p m c cX5_refusalOfRows 3 s _ wsX5_refusalOfRows RX5 := S9
  have hx := S9.1
  have hb := S9.2.1
  have hown := S9.2.2.2.1
  have hts := S9.2.2.2.2
  replace hl : lv_has ls 3 [(0, .ref a), (1, .ref a9)] := hl
  refine lv_aload_n hx hb dX5_refusalOfRows_0 rfl (lv_at hl 0 rfl) ?_
  refine lv_ifnull hx hb dX5_refusalOfRows_1 ?_
  refine lv_aload_n hx hb dX5_refusalOfRows_4 rfl (lv_at hl 1 rfl) ?_
  refine lv_ifnonnull (tgt := 10) hx hb dX5_refusalOfRows_5 (by decide) ?_
  refine lv_aload_n hx hb dX5_refusalOfRows_10 rfl (lv_at hl 0 rfl) ?_
  refine r_inst S9 w ha (by decide) 2 (by decide) (by decide +kernel) (v := 0) rfl dX5_refusalOfRows_11 ?_
  refine lv_if_ne (tgt := 24) hx hb dX5_refusalOfRows_14 (by decide) (fun c_14 => absurd c_14 (by decide)) (fun c_14 => ?_)
  refine lv_aload_n hx hb dX5_refusalOfRows_17 rfl (lv_at hl 1 rfl) ?_
  refine r_inst S9 w ha9 (by decide) 2 (by decide) (by decide +kernel) (v := 0) rfl dX5_refusalOfRows_18 ?_
  refine lv_if_eq (tgt := 26) hx hb dX5_refusalOfRows_21 (by decide) (fun c_21 => ?_) (fun c_21 => absurd c_21 (by decide))
  refine lv_aload_n hx hb dX5_refusalOfRows_26 rfl (lv_at hl 0 rfl) ?_
  refine r_inst S9 w ha (by decide) 1 (by decide) (by decide +kernel) (v := 0) rfl dX5_refusalOfRows_27 ?_
  refine lv_if_eq (tgt := 44) hx hb dX5_refusalOfRows_30 (by decide) (fun c_30 => ?_) (fun c_30 => absurd c_30 (by decide))
  refine lv_iconst (v := 0) hx hb dX5_refusalOfRows_44 (by decide) ?_
  refine lv_istore_n (lv' := [(2, .int 0), (0, .ref a), (1, .ref a9)]) hx hb dX5_refusalOfRows_45 rfl hl (by decide) rfl (fun ls hl => ?_)
  refine lv_iload_n hx hb dX5_refusalOfRows_46 rfl (lv_at hl 0 rfl) ?_
  refine lv_if_ne (tgt := 61) hx hb dX5_refusalOfRows_47 (by decide) (fun c_47 => absurd c_47 (by decide)) (fun c_47 => ?_)
  refine lv_aload_n hx hb dX5_refusalOfRows_50 rfl (lv_at hl 1 rfl) ?_
  refine r_get (ref := "SpanMover$Item") S9 w ha rfl (by decide +kernel) 1 (by decide) (by decide +kernel) (Or.inl rfl) rfl dX5_refusalOfRows_51 ?_
  refine lv_aload_n hx hb dX5_refusalOfRows_54 rfl (lv_at hl 2 rfl) ?_
  refine r_get (ref := "SpanMover$Item") S9 w ha9 rfl (by decide +kernel) 1 (by decide) (by decide +kernel) (Or.inl rfl) rfl dX5_refusalOfRows_55 ?_
  refine lv_icmp_ne (tgt := 65) hx hb dX5_refusalOfRows_58 (by decide) (fun c_58 => ?_) (fun c_58 => ?_)
  · refine lv_iconst (v := 3) hx hb dX5_refusalOfRows_65 (by decide) ?_
    exact e_i S9 hr hlk (by rw [nI_lit (by omega) (by omega)] at c_58; have e1 : ¬ 7 ≤ k := (by omega); have e2 : ¬ 7 ≤ k9 := (by omega); have e3 : ¬ (4 ≤ k ∧ 4 ≤ k9) := (by omega); first | omega | (rw [if_neg e1, if_neg e2, if_neg (by omega)])) dX5_refusalOfRows_66
  · refine lv_iconst (v := 0) hx hb dX5_refusalOfRows_61 (by decide) ?_
    refine lv_goto (tgt := 66) hx hb dX5_refusalOfRows_62 (by decide) ?_
    exact e_i S9 hr hlk (by rw [nI_lit (by omega) (by omega)] at c_58; have e1 : ¬ 7 ≤ k := (by omega); have e2 : ¬ 7 ≤ k9 := (by omega); have e3 : ¬ (4 ≤ k ∧ 4 ≤ k9) := (by omega); first | omega | (rw [if_neg e1, if_neg e2, if_neg (by omega)])) dX5_refusalOfRows_66

set_option maxHeartbeats 4000000 in
set_option maxRecDepth 100000 in
theorem c_refusalOfRows_02 (l : Launch) {G : Gt} {ws : va_W} (sz : Nat) {n k a b : Nat} {dk : Int32} {kd : Int64} (ha : hp ws a (.inr (0, [.int (nI n), .int (nI k), .ref b, .int dk, .long kd]))) (h0 : k ≤ 3) {k9 a9 : Nat} {v9 : Int32} (ha9 : hp ws a9 (.inr (2, [.int (nI k9), .int v9]))) (h9 : 7 ≤ k9) (h9l : k9 ≤ 8) : Met l yX5_refusalOfRows wsX5_refusalOfRows ({ frames := 0, cells := 0, slots := 0, locals := 0 } : Room) (Pw G [.ref a, .ref a9] ws sz) (vp_Si (fun r : Int32 => r = if 7 ≤ k then 2 else if 7 ≤ k9 then 2 else if (4 ≤ k ∧ 4 ≤ k9) ∨ k = k9 then 0 else 3)) 0 0 (fun _ => False) := by
  refine Met_pw (cc := cX5_refusalOfRows) (maxL := 3) (ret := (some .int)) (by decide) rfl (Nat.le_of_ble_eq_true rfl) ?_
  intro p e s m below meth c ls hsz S9 hr hlk hnm w hl
  subst hsz
  replace S9 : CallFix p m c cX5_refusalOfRows 3 s _ wsX5_refusalOfRows RX5 := S9
  have hx := S9.1
  have hb := S9.2.1
  have hown := S9.2.2.2.1
  have hts := S9.2.2.2.2
  replace hl : lv_has ls 3 [(0, .ref a), (1, .ref a9)] := hl
  refine lv_aload_n hx hb dX5_refusalOfRows_0 rfl (lv_at hl 0 rfl) ?_
  refine lv_ifnull hx hb dX5_refusalOfRows_1 ?_
  refine lv_aload_n hx hb dX5_refusalOfRows_4 rfl (lv_at hl 1 rfl) ?_
  refine lv_ifnonnull (tgt := 10) hx hb dX5_refusalOfRows_5 (by decide) ?_
  refine lv_aload_n hx hb dX5_refusalOfRows_10 rfl (lv_at hl 0 rfl) ?_
  refine r_inst S9 w ha (by decide) 2 (by decide) (by decide +kernel) (v := 0) rfl dX5_refusalOfRows_11 ?_
  refine lv_if_ne (tgt := 24) hx hb dX5_refusalOfRows_14 (by decide) (fun c_14 => absurd c_14 (by decide)) (fun c_14 => ?_)
  refine lv_aload_n hx hb dX5_refusalOfRows_17 rfl (lv_at hl 1 rfl) ?_
  refine r_inst S9 w ha9 (by decide) 2 (by decide) (by decide +kernel) (v := 1) rfl dX5_refusalOfRows_18 ?_
  refine lv_if_eq (tgt := 26) hx hb dX5_refusalOfRows_21 (by decide) (fun c_21 => absurd c_21 (by decide)) (fun c_21 => ?_)
  refine lv_iconst (v := 2) hx hb dX5_refusalOfRows_24 (by decide) ?_
  exact e_i S9 hr hlk (by have e1 : ¬ 7 ≤ k := (by omega); simp [e1, h9]) dX5_refusalOfRows_25

set_option maxHeartbeats 4000000 in
set_option maxRecDepth 100000 in
theorem c_refusalOfRows_10 (l : Launch) {G : Gt} {ws : va_W} (sz : Nat) {n k a b : Nat} (ha : hp ws a (.inr (1, [.int (nI n), .int (nI k), .ref b]))) (h0 : 4 ≤ k) (h0l : k ≤ 6) {n9 k9 a9 b9 : Nat} {dk9 : Int32} {kd9 : Int64} (ha9 : hp ws a9 (.inr (0, [.int (nI n9), .int (nI k9), .ref b9, .int dk9, .long kd9]))) (h9 : k9 ≤ 3) : Met l yX5_refusalOfRows wsX5_refusalOfRows ({ frames := 0, cells := 0, slots := 0, locals := 0 } : Room) (Pw G [.ref a, .ref a9] ws sz) (vp_Si (fun r : Int32 => r = if 7 ≤ k then 2 else if 7 ≤ k9 then 2 else if (4 ≤ k ∧ 4 ≤ k9) ∨ k = k9 then 0 else 3)) 0 0 (fun _ => False) := by
  refine Met_pw (cc := cX5_refusalOfRows) (maxL := 3) (ret := (some .int)) (by decide) rfl (Nat.le_of_ble_eq_true rfl) ?_
  intro p e s m below meth c ls hsz S9 hr hlk hnm w hl
  subst hsz
  replace S9 : CallFix p m c cX5_refusalOfRows 3 s _ wsX5_refusalOfRows RX5 := S9
  have hx := S9.1
  have hb := S9.2.1
  have hown := S9.2.2.2.1
  have hts := S9.2.2.2.2
  replace hl : lv_has ls 3 [(0, .ref a), (1, .ref a9)] := hl
  refine lv_aload_n hx hb dX5_refusalOfRows_0 rfl (lv_at hl 0 rfl) ?_
  refine lv_ifnull hx hb dX5_refusalOfRows_1 ?_
  refine lv_aload_n hx hb dX5_refusalOfRows_4 rfl (lv_at hl 1 rfl) ?_
  refine lv_ifnonnull (tgt := 10) hx hb dX5_refusalOfRows_5 (by decide) ?_
  refine lv_aload_n hx hb dX5_refusalOfRows_10 rfl (lv_at hl 0 rfl) ?_
  refine r_inst S9 w ha (by decide) 2 (by decide) (by decide +kernel) (v := 0) rfl dX5_refusalOfRows_11 ?_
  refine lv_if_ne (tgt := 24) hx hb dX5_refusalOfRows_14 (by decide) (fun c_14 => absurd c_14 (by decide)) (fun c_14 => ?_)
  refine lv_aload_n hx hb dX5_refusalOfRows_17 rfl (lv_at hl 1 rfl) ?_
  refine r_inst S9 w ha9 (by decide) 2 (by decide) (by decide +kernel) (v := 0) rfl dX5_refusalOfRows_18 ?_
  refine lv_if_eq (tgt := 26) hx hb dX5_refusalOfRows_21 (by decide) (fun c_21 => ?_) (fun c_21 => absurd c_21 (by decide))
  refine lv_aload_n hx hb dX5_refusalOfRows_26 rfl (lv_at hl 0 rfl) ?_
  refine r_inst S9 w ha (by decide) 1 (by decide) (by decide +kernel) (v := 1) rfl dX5_refusalOfRows_27 ?_
  refine lv_if_eq (tgt := 44) hx hb dX5_refusalOfRows_30 (by decide) (fun c_30 => absurd c_30 (by decide)) (fun c_30 => ?_)
  refine lv_aload_n hx hb dX5_refusalOfRows_33 rfl (lv_at hl 1 rfl) ?_
  refine r_inst S9 w ha9 (by decide) 1 (by decide) (by decide +kernel) (v := 0) rfl dX5_refusalOfRows_34 ?_
  refine lv_if_eq (tgt := 44) hx hb dX5_refusalOfRows_37 (by decide) (fun c_37 => ?_) (fun c_37 => absurd c_37 (by decide))
  refine lv_iconst (v := 0) hx hb dX5_refusalOfRows_44 (by decide) ?_
  refine lv_istore_n (lv' := [(2, .int 0), (0, .ref a), (1, .ref a9)]) hx hb dX5_refusalOfRows_45 rfl hl (by decide) rfl (fun ls hl => ?_)
  refine lv_iload_n hx hb dX5_refusalOfRows_46 rfl (lv_at hl 0 rfl) ?_
  refine lv_if_ne (tgt := 61) hx hb dX5_refusalOfRows_47 (by decide) (fun c_47 => absurd c_47 (by decide)) (fun c_47 => ?_)
  refine lv_aload_n hx hb dX5_refusalOfRows_50 rfl (lv_at hl 1 rfl) ?_
  refine r_get (ref := "SpanMover$Item") S9 w ha rfl (by decide +kernel) 1 (by decide) (by decide +kernel) (Or.inl rfl) rfl dX5_refusalOfRows_51 ?_
  refine lv_aload_n hx hb dX5_refusalOfRows_54 rfl (lv_at hl 2 rfl) ?_
  refine r_get (ref := "SpanMover$Item") S9 w ha9 rfl (by decide +kernel) 1 (by decide) (by decide +kernel) (Or.inl rfl) rfl dX5_refusalOfRows_55 ?_
  refine lv_icmp_ne (tgt := 65) hx hb dX5_refusalOfRows_58 (by decide) (fun c_58 => ?_) (fun c_58 => ?_)
  · refine lv_iconst (v := 3) hx hb dX5_refusalOfRows_65 (by decide) ?_
    exact e_i S9 hr hlk (by rw [nI_lit (by omega) (by omega)] at c_58; have e1 : ¬ 7 ≤ k := (by omega); have e2 : ¬ 7 ≤ k9 := (by omega); have e3 : ¬ (4 ≤ k ∧ 4 ≤ k9) := (by omega); first | omega | (rw [if_neg e1, if_neg e2, if_neg (by omega)])) dX5_refusalOfRows_66
  · refine lv_iconst (v := 0) hx hb dX5_refusalOfRows_61 (by decide) ?_
    refine lv_goto (tgt := 66) hx hb dX5_refusalOfRows_62 (by decide) ?_
    exact e_i S9 hr hlk (by rw [nI_lit (by omega) (by omega)] at c_58; have e1 : ¬ 7 ≤ k := (by omega); have e2 : ¬ 7 ≤ k9 := (by omega); have e3 : ¬ (4 ≤ k ∧ 4 ≤ k9) := (by omega); first | omega | (rw [if_neg e1, if_neg e2, if_neg (by omega)])) dX5_refusalOfRows_66

set_option maxHeartbeats 4000000 in
set_option maxRecDepth 100000 in
theorem c_refusalOfRows_11 (l : Launch) {G : Gt} {ws : va_W} (sz : Nat) {n k a b : Nat} (ha : hp ws a (.inr (1, [.int (nI n), .int (nI k), .ref b]))) (h0 : 4 ≤ k) (h0l : k ≤ 6) {n9 k9 a9 b9 : Nat} (ha9 : hp ws a9 (.inr (1, [.int (nI n9), .int (nI k9), .ref b9]))) (h9 : 4 ≤ k9) (h9l : k9 ≤ 6) : Met l yX5_refusalOfRows wsX5_refusalOfRows ({ frames := 0, cells := 0, slots := 0, locals := 0 } : Room) (Pw G [.ref a, .ref a9] ws sz) (vp_Si (fun r : Int32 => r = if 7 ≤ k then 2 else if 7 ≤ k9 then 2 else if (4 ≤ k ∧ 4 ≤ k9) ∨ k = k9 then 0 else 3)) 0 0 (fun _ => False) := by
  refine Met_pw (cc := cX5_refusalOfRows) (maxL := 3) (ret := (some .int)) (by decide) rfl (Nat.le_of_ble_eq_true rfl) ?_
  intro p e s m below meth c ls hsz S9 hr hlk hnm w hl
  subst hsz
  replace S9 : CallFix p m c cX5_refusalOfRows 3 s _ wsX5_refusalOfRows RX5 := S9
  have hx := S9.1
  have hb := S9.2.1
  have hown := S9.2.2.2.1
  have hts := S9.2.2.2.2
  replace hl : lv_has ls 3 [(0, .ref a), (1, .ref a9)] := hl
  refine lv_aload_n hx hb dX5_refusalOfRows_0 rfl (lv_at hl 0 rfl) ?_
  refine lv_ifnull hx hb dX5_refusalOfRows_1 ?_
  refine lv_aload_n hx hb dX5_refusalOfRows_4 rfl (lv_at hl 1 rfl) ?_
  refine lv_ifnonnull (tgt := 10) hx hb dX5_refusalOfRows_5 (by decide) ?_
  refine lv_aload_n hx hb dX5_refusalOfRows_10 rfl (lv_at hl 0 rfl) ?_
  refine r_inst S9 w ha (by decide) 2 (by decide) (by decide +kernel) (v := 0) rfl dX5_refusalOfRows_11 ?_
  refine lv_if_ne (tgt := 24) hx hb dX5_refusalOfRows_14 (by decide) (fun c_14 => absurd c_14 (by decide)) (fun c_14 => ?_)
  refine lv_aload_n hx hb dX5_refusalOfRows_17 rfl (lv_at hl 1 rfl) ?_
  refine r_inst S9 w ha9 (by decide) 2 (by decide) (by decide +kernel) (v := 0) rfl dX5_refusalOfRows_18 ?_
  refine lv_if_eq (tgt := 26) hx hb dX5_refusalOfRows_21 (by decide) (fun c_21 => ?_) (fun c_21 => absurd c_21 (by decide))
  refine lv_aload_n hx hb dX5_refusalOfRows_26 rfl (lv_at hl 0 rfl) ?_
  refine r_inst S9 w ha (by decide) 1 (by decide) (by decide +kernel) (v := 1) rfl dX5_refusalOfRows_27 ?_
  refine lv_if_eq (tgt := 44) hx hb dX5_refusalOfRows_30 (by decide) (fun c_30 => absurd c_30 (by decide)) (fun c_30 => ?_)
  refine lv_aload_n hx hb dX5_refusalOfRows_33 rfl (lv_at hl 1 rfl) ?_
  refine r_inst S9 w ha9 (by decide) 1 (by decide) (by decide +kernel) (v := 1) rfl dX5_refusalOfRows_34 ?_
  refine lv_if_eq (tgt := 44) hx hb dX5_refusalOfRows_37 (by decide) (fun c_37 => absurd c_37 (by decide)) (fun c_37 => ?_)
  refine lv_iconst (v := 1) hx hb dX5_refusalOfRows_40 (by decide) ?_
  refine lv_goto (tgt := 45) hx hb dX5_refusalOfRows_41 (by decide) ?_
  refine lv_istore_n (lv' := [(2, .int 1), (0, .ref a), (1, .ref a9)]) hx hb dX5_refusalOfRows_45 rfl hl (by decide) rfl (fun ls hl => ?_)
  refine lv_iload_n hx hb dX5_refusalOfRows_46 rfl (lv_at hl 0 rfl) ?_
  refine lv_if_ne (tgt := 61) hx hb dX5_refusalOfRows_47 (by decide) (fun c_47 => ?_) (fun c_47 => absurd c_47 (by decide))
  refine lv_iconst (v := 0) hx hb dX5_refusalOfRows_61 (by decide) ?_
  refine lv_goto (tgt := 66) hx hb dX5_refusalOfRows_62 (by decide) ?_
  exact e_i S9 hr hlk (by have e1 : ¬ 7 ≤ k := (by omega); have e2 : ¬ 7 ≤ k9 := (by omega); simp [e1, e2, h0, h9]) dX5_refusalOfRows_66

set_option maxHeartbeats 4000000 in
set_option maxRecDepth 100000 in
theorem c_refusalOfRows_12 (l : Launch) {G : Gt} {ws : va_W} (sz : Nat) {n k a b : Nat} (ha : hp ws a (.inr (1, [.int (nI n), .int (nI k), .ref b]))) (h0 : 4 ≤ k) (h0l : k ≤ 6) {k9 a9 : Nat} {v9 : Int32} (ha9 : hp ws a9 (.inr (2, [.int (nI k9), .int v9]))) (h9 : 7 ≤ k9) (h9l : k9 ≤ 8) : Met l yX5_refusalOfRows wsX5_refusalOfRows ({ frames := 0, cells := 0, slots := 0, locals := 0 } : Room) (Pw G [.ref a, .ref a9] ws sz) (vp_Si (fun r : Int32 => r = if 7 ≤ k then 2 else if 7 ≤ k9 then 2 else if (4 ≤ k ∧ 4 ≤ k9) ∨ k = k9 then 0 else 3)) 0 0 (fun _ => False) := by
  refine Met_pw (cc := cX5_refusalOfRows) (maxL := 3) (ret := (some .int)) (by decide) rfl (Nat.le_of_ble_eq_true rfl) ?_
  intro p e s m below meth c ls hsz S9 hr hlk hnm w hl
  subst hsz
  replace S9 : CallFix p m c cX5_refusalOfRows 3 s _ wsX5_refusalOfRows RX5 := S9
  have hx := S9.1
  have hb := S9.2.1
  have hown := S9.2.2.2.1
  have hts := S9.2.2.2.2
  replace hl : lv_has ls 3 [(0, .ref a), (1, .ref a9)] := hl
  refine lv_aload_n hx hb dX5_refusalOfRows_0 rfl (lv_at hl 0 rfl) ?_
  refine lv_ifnull hx hb dX5_refusalOfRows_1 ?_
  refine lv_aload_n hx hb dX5_refusalOfRows_4 rfl (lv_at hl 1 rfl) ?_
  refine lv_ifnonnull (tgt := 10) hx hb dX5_refusalOfRows_5 (by decide) ?_
  refine lv_aload_n hx hb dX5_refusalOfRows_10 rfl (lv_at hl 0 rfl) ?_
  refine r_inst S9 w ha (by decide) 2 (by decide) (by decide +kernel) (v := 0) rfl dX5_refusalOfRows_11 ?_
  refine lv_if_ne (tgt := 24) hx hb dX5_refusalOfRows_14 (by decide) (fun c_14 => absurd c_14 (by decide)) (fun c_14 => ?_)
  refine lv_aload_n hx hb dX5_refusalOfRows_17 rfl (lv_at hl 1 rfl) ?_
  refine r_inst S9 w ha9 (by decide) 2 (by decide) (by decide +kernel) (v := 1) rfl dX5_refusalOfRows_18 ?_
  refine lv_if_eq (tgt := 26) hx hb dX5_refusalOfRows_21 (by decide) (fun c_21 => absurd c_21 (by decide)) (fun c_21 => ?_)
  refine lv_iconst (v := 2) hx hb dX5_refusalOfRows_24 (by decide) ?_
  exact e_i S9 hr hlk (by have e1 : ¬ 7 ≤ k := (by omega); simp [e1, h9]) dX5_refusalOfRows_25

set_option maxHeartbeats 4000000 in
set_option maxRecDepth 100000 in
theorem c_refusalOfRows_20 (l : Launch) {G : Gt} {ws : va_W} (sz : Nat) {k a : Nat} {v : Int32} (ha : hp ws a (.inr (2, [.int (nI k), .int v]))) (h0 : 7 ≤ k) (h0l : k ≤ 8) {n9 k9 a9 b9 : Nat} {dk9 : Int32} {kd9 : Int64} (ha9 : hp ws a9 (.inr (0, [.int (nI n9), .int (nI k9), .ref b9, .int dk9, .long kd9]))) (h9 : k9 ≤ 3) : Met l yX5_refusalOfRows wsX5_refusalOfRows ({ frames := 0, cells := 0, slots := 0, locals := 0 } : Room) (Pw G [.ref a, .ref a9] ws sz) (vp_Si (fun r : Int32 => r = if 7 ≤ k then 2 else if 7 ≤ k9 then 2 else if (4 ≤ k ∧ 4 ≤ k9) ∨ k = k9 then 0 else 3)) 0 0 (fun _ => False) := by
  refine Met_pw (cc := cX5_refusalOfRows) (maxL := 3) (ret := (some .int)) (by decide) rfl (Nat.le_of_ble_eq_true rfl) ?_
  intro p e s m below meth c ls hsz S9 hr hlk hnm w hl
  subst hsz
  replace S9 : CallFix p m c cX5_refusalOfRows 3 s _ wsX5_refusalOfRows RX5 := S9
  have hx := S9.1
  have hb := S9.2.1
  have hown := S9.2.2.2.1
  have hts := S9.2.2.2.2
  replace hl : lv_has ls 3 [(0, .ref a), (1, .ref a9)] := hl
  refine lv_aload_n hx hb dX5_refusalOfRows_0 rfl (lv_at hl 0 rfl) ?_
  refine lv_ifnull hx hb dX5_refusalOfRows_1 ?_
  refine lv_aload_n hx hb dX5_refusalOfRows_4 rfl (lv_at hl 1 rfl) ?_
  refine lv_ifnonnull (tgt := 10) hx hb dX5_refusalOfRows_5 (by decide) ?_
  refine lv_aload_n hx hb dX5_refusalOfRows_10 rfl (lv_at hl 0 rfl) ?_
  refine r_inst S9 w ha (by decide) 2 (by decide) (by decide +kernel) (v := 1) rfl dX5_refusalOfRows_11 ?_
  refine lv_if_ne (tgt := 24) hx hb dX5_refusalOfRows_14 (by decide) (fun c_14 => ?_) (fun c_14 => absurd c_14 (by decide))
  refine lv_iconst (v := 2) hx hb dX5_refusalOfRows_24 (by decide) ?_
  exact e_i S9 hr hlk (by simp [h0]) dX5_refusalOfRows_25

set_option maxHeartbeats 4000000 in
set_option maxRecDepth 100000 in
theorem c_refusalOfRows_21 (l : Launch) {G : Gt} {ws : va_W} (sz : Nat) {k a : Nat} {v : Int32} (ha : hp ws a (.inr (2, [.int (nI k), .int v]))) (h0 : 7 ≤ k) (h0l : k ≤ 8) {n9 k9 a9 b9 : Nat} (ha9 : hp ws a9 (.inr (1, [.int (nI n9), .int (nI k9), .ref b9]))) (h9 : 4 ≤ k9) (h9l : k9 ≤ 6) : Met l yX5_refusalOfRows wsX5_refusalOfRows ({ frames := 0, cells := 0, slots := 0, locals := 0 } : Room) (Pw G [.ref a, .ref a9] ws sz) (vp_Si (fun r : Int32 => r = if 7 ≤ k then 2 else if 7 ≤ k9 then 2 else if (4 ≤ k ∧ 4 ≤ k9) ∨ k = k9 then 0 else 3)) 0 0 (fun _ => False) := by
  refine Met_pw (cc := cX5_refusalOfRows) (maxL := 3) (ret := (some .int)) (by decide) rfl (Nat.le_of_ble_eq_true rfl) ?_
  intro p e s m below meth c ls hsz S9 hr hlk hnm w hl
  subst hsz
  replace S9 : CallFix p m c cX5_refusalOfRows 3 s _ wsX5_refusalOfRows RX5 := S9
  have hx := S9.1
  have hb := S9.2.1
  have hown := S9.2.2.2.1
  have hts := S9.2.2.2.2
  replace hl : lv_has ls 3 [(0, .ref a), (1, .ref a9)] := hl
  refine lv_aload_n hx hb dX5_refusalOfRows_0 rfl (lv_at hl 0 rfl) ?_
  refine lv_ifnull hx hb dX5_refusalOfRows_1 ?_
  refine lv_aload_n hx hb dX5_refusalOfRows_4 rfl (lv_at hl 1 rfl) ?_
  refine lv_ifnonnull (tgt := 10) hx hb dX5_refusalOfRows_5 (by decide) ?_
  refine lv_aload_n hx hb dX5_refusalOfRows_10 rfl (lv_at hl 0 rfl) ?_
  refine r_inst S9 w ha (by decide) 2 (by decide) (by decide +kernel) (v := 1) rfl dX5_refusalOfRows_11 ?_
  refine lv_if_ne (tgt := 24) hx hb dX5_refusalOfRows_14 (by decide) (fun c_14 => ?_) (fun c_14 => absurd c_14 (by decide))
  refine lv_iconst (v := 2) hx hb dX5_refusalOfRows_24 (by decide) ?_
  exact e_i S9 hr hlk (by simp [h0]) dX5_refusalOfRows_25

set_option maxHeartbeats 4000000 in
set_option maxRecDepth 100000 in
theorem c_refusalOfRows_22 (l : Launch) {G : Gt} {ws : va_W} (sz : Nat) {k a : Nat} {v : Int32} (ha : hp ws a (.inr (2, [.int (nI k), .int v]))) (h0 : 7 ≤ k) (h0l : k ≤ 8) {k9 a9 : Nat} {v9 : Int32} (ha9 : hp ws a9 (.inr (2, [.int (nI k9), .int v9]))) (h9 : 7 ≤ k9) (h9l : k9 ≤ 8) : Met l yX5_refusalOfRows wsX5_refusalOfRows ({ frames := 0, cells := 0, slots := 0, locals := 0 } : Room) (Pw G [.ref a, .ref a9] ws sz) (vp_Si (fun r : Int32 => r = if 7 ≤ k then 2 else if 7 ≤ k9 then 2 else if (4 ≤ k ∧ 4 ≤ k9) ∨ k = k9 then 0 else 3)) 0 0 (fun _ => False) := by
  refine Met_pw (cc := cX5_refusalOfRows) (maxL := 3) (ret := (some .int)) (by decide) rfl (Nat.le_of_ble_eq_true rfl) ?_
  intro p e s m below meth c ls hsz S9 hr hlk hnm w hl
  subst hsz
  replace S9 : CallFix p m c cX5_refusalOfRows 3 s _ wsX5_refusalOfRows RX5 := S9
  have hx := S9.1
  have hb := S9.2.1
  have hown := S9.2.2.2.1
  have hts := S9.2.2.2.2
  replace hl : lv_has ls 3 [(0, .ref a), (1, .ref a9)] := hl
  refine lv_aload_n hx hb dX5_refusalOfRows_0 rfl (lv_at hl 0 rfl) ?_
  refine lv_ifnull hx hb dX5_refusalOfRows_1 ?_
  refine lv_aload_n hx hb dX5_refusalOfRows_4 rfl (lv_at hl 1 rfl) ?_
  refine lv_ifnonnull (tgt := 10) hx hb dX5_refusalOfRows_5 (by decide) ?_
  refine lv_aload_n hx hb dX5_refusalOfRows_10 rfl (lv_at hl 0 rfl) ?_
  refine r_inst S9 w ha (by decide) 2 (by decide) (by decide +kernel) (v := 1) rfl dX5_refusalOfRows_11 ?_
  refine lv_if_ne (tgt := 24) hx hb dX5_refusalOfRows_14 (by decide) (fun c_14 => ?_) (fun c_14 => absurd c_14 (by decide))
  refine lv_iconst (v := 2) hx hb dX5_refusalOfRows_24 (by decide) ?_
  exact e_i S9 hr hlk (by simp [h0]) dX5_refusalOfRows_25
