theorem lc_le {z : Int32} {a b : Int64} (h : z = lg_cmp a b) : z ≤ 0 ↔ a.toInt ≤ b.toInt := by
  rw [h, lg_cmp_le, Int64.le_iff_toInt_le]
theorem lc_lt {z : Int32} {a b : Int64} (h : z = lg_cmp a b) : z < 0 ↔ a.toInt < b.toInt := by
  rw [h, lg_cmp_lt, Int64.lt_iff_toInt_lt]
theorem lc_ge {z : Int32} {a b : Int64} (h : z = lg_cmp a b) : 0 ≤ z ↔ b.toInt ≤ a.toInt := by
  rw [h, lg_cmp_ge, Int64.le_iff_toInt_le]
theorem lc_gt {z : Int32} {a b : Int64} (h : z = lg_cmp a b) : 0 < z ↔ b.toInt < a.toInt := by
  rw [h, lg_cmp_gt, Int64.lt_iff_toInt_lt]
theorem lc_eq {z : Int32} {a b : Int64} (h : z = lg_cmp a b) : z = 0 ↔ a.toInt = b.toInt := by
  rw [h, lg_cmp_eq, Int64.toInt_inj]
theorem ex_m {n : Nat} (h1 : 2 ^ 53 ≤ n) (h2 : n < 2 ^ 63) : ∃ m, 1 ≤ m ∧ m ≤ 10 ∧ 2 ^ (52 + m) ≤ n ∧ n < 2 ^ (53 + m) := by
  have a1 : 2 ^ n.log2 ≤ n := Nat.log2_self_le (by omega)
  have a2 : n < 2 ^ (n.log2 + 1) := Nat.lt_log2_self
  have a3 : 53 ≤ n.log2 := by
    rcases Nat.lt_or_ge n.log2 53 with q | q
    · have : 2 ^ (n.log2 + 1) ≤ 2 ^ 53 := Nat.pow_le_pow_right (by decide) (by omega)
      omega
    · exact q
  have a4 : n.log2 ≤ 62 := by
    rcases Nat.lt_or_ge 62 n.log2 with q | q
    · have : 2 ^ 63 ≤ 2 ^ n.log2 := Nat.pow_le_pow_right (by decide) (by omega)
      omega
    · exact q
  refine ⟨n.log2 - 52, by omega, by omega, ?_, ?_⟩
  · rw [show 52 + (n.log2 - 52) = n.log2 by omega]; exact a1
  · rw [show 53 + (n.log2 - 52) = n.log2 + 1 by omega]; exact a2
theorem div_m {n m : Nat} (h : n < 2 ^ (53 + m)) : n / 2 ^ m < 2 ^ 53 := by
  rw [Nat.div_lt_iff_lt_mul (Nat.two_pow_pos m), ← Nat.pow_add]
  exact h
theorem div_lt {n m t : Nat} (h : 2 ^ (52 + m) ≤ n) (ht : t < m) : 2 ^ 53 ≤ n / 2 ^ t := by
  rw [Nat.le_div_iff_mul_le (Nat.two_pow_pos t), ← Nat.pow_add]
  have : 2 ^ (53 + t) ≤ 2 ^ (52 + m) := Nat.pow_le_pow_right (by decide) (by omega)
  omega
theorem near_up {n d : Nat} : FP.Core.nearest n d ≤ n / d + 1 := by
  unfold FP.Core.nearest
  split
  · omega
  · split
    · omega
    · have := Nat.mod_lt (n / d) (show 2 > 0 by decide)
      omega
theorem near_le {n m : Nat} (h : n < 2 ^ (53 + m)) (h10 : m ≤ 10) : FP.Core.nearest n (2 ^ m) * 2 ^ m ≤ 2 ^ 63 := by
  have h1 := div_m h
  have h2 := near_up (n := n) (d := 2 ^ m)
  have h3 : FP.Core.nearest n (2 ^ m) * 2 ^ m ≤ 2 ^ 53 * 2 ^ m := Nat.mul_le_mul_right _ (by omega)
  have h4 : 2 ^ m ≤ 2 ^ 10 := Nat.pow_le_pow_right (by decide) h10
  have h5 : 2 ^ 53 * 2 ^ m ≤ 2 ^ 53 * 2 ^ 10 := Nat.mul_le_mul_left _ h4
  have h6 : 2 ^ 53 * 2 ^ 10 = 2 ^ 63 := by decide
  omega
theorem pow_half {m : Nat} (h : 1 ≤ m) : 2 ^ m = 2 * 2 ^ (m - 1) := by
  obtain ⟨k, rfl⟩ : ∃ k, m = k + 1 := ⟨m - 1, by omega⟩
  rw [Nat.pow_succ, Nat.add_sub_cancel]
  omega
theorem rd_rest {n m : Nat} (hn : n < 2 ^ 63) (hm : m < 64) : lN n &&& ((1 : Int64) <<< ((nI m).toInt64 &&& 63) - 1) = lN (n % 2 ^ m) := by
  have e1 : (1 : Int64) <<< ((nI m).toInt64 &&& 63) = lN (1 * 2 ^ m) := wb_shl 1 hm
  rw [e1, Nat.one_mul, show lN (2 ^ m) - 1 = lN (2 ^ m - 1) from lN_sub (b := 1) (Nat.two_pow_pos m)]
  exact wb_mask (by omega) hm
theorem rd_half {m : Nat} (h : 1 ≤ m) (hm : m < 64) : (1 : Int64) <<< ((nI m - 1).toInt64 &&& 63) = lN (2 ^ (m - 1)) := by
  rw [show nI m - 1 = nI (m - 1) from pk_sub (b := 1) h]
  have e1 : (1 : Int64) <<< ((nI (m - 1)).toInt64 &&& 63) = lN (1 * 2 ^ (m - 1)) := wb_shl 1 (by omega)
  rw [e1, Nat.one_mul]
theorem pos_nat {v : Int64} {n : Nat} (h : v.toInt = n) (hn : n < 2 ^ 63) : v = lN n := Int64.toInt_inj.mp (by rw [pk_lT hn]; exact h)
theorem neg_nat {v : Int64} {n : Nat} (h : v.toInt = -(n : Int)) (hn : n < 2 ^ 63) : -v = lN n := by
  apply Int64.toInt_inj.mp
  rw [pk_lT hn, Int64.toInt_neg, h, Int.bmod_def]
  split <;> omega
theorem lN_ofInt (N : Nat) : lN N = Int64.ofInt (N : Int) := rfl
theorem rnd_neg {N : Nat} (h : N ≤ 2 ^ 63) : -(lN N) = Int64.ofInt (max (-2 ^ 63) (min (2 ^ 63 - 1) (FP.Core.signed true N))) := by
  have e1 : max (-2 ^ 63) (min (2 ^ 63 - 1) (FP.Core.signed true N)) = -(N : Int) := by
    show max (-2 ^ 63) (min (2 ^ 63 - 1) (-(N : Int))) = -(N : Int)
    omega
  rw [e1, Int64.ofInt_neg, lN_ofInt]
theorem rnd_pos {N : Nat} (h : N < 2 ^ 63) : lN N = Int64.ofInt (max (-2 ^ 63) (min (2 ^ 63 - 1) (FP.Core.signed false N))) := by
  have e1 : max (-2 ^ 63) (min (2 ^ 63 - 1) (FP.Core.signed false N)) = (N : Int) := by
    show max (-2 ^ 63) (min (2 ^ 63 - 1) (N : Int)) = (N : Int)
    omega
  rw [e1, lN_ofInt]
theorem low_nat {N : Nat} (h : N ≤ 2 ^ 63) (c : 0 ≤ (lN N).toInt) : N < 2 ^ 63 := by
  rcases Nat.lt_or_ge N (2 ^ 63) with q | q
  · exact q
  · have : N = 2 ^ 63 := by omega
    subst this
    exact absurd c (by decide)
theorem top_nat {N : Nat} (h : N ≤ 2 ^ 63) (c : ¬ 0 ≤ (lN N).toInt) : N = 2 ^ 63 := by
  rcases Nat.lt_or_ge N (2 ^ 63) with q | q
  · rw [pk_lT q] at c
    omega
  · omega
theorem fp_dec (s : Bool) {c : Nat} {q : Int} (h1 : 2 ^ 52 ≤ c) (h2 : c < 2 ^ 53) (h3 : -1074 ≤ q) (h4 : q ≤ 971) : FP.Core.decode FP.Core.b64 (UInt64.ofNat (FP.Core.encode FP.Core.b64 (.fin s c q))).toNat = .fin s c q := by
  have ht : FP.Core.Fmt.tails FP.Core.b64 = 4503599627370496 := by decide +kernel
  have hx : FP.Core.Fmt.exps FP.Core.b64 = 2048 := by decide +kernel
  have hm : FP.Core.Fmt.qmin FP.Core.b64 = -1074 := by decide +kernel
  obtain ⟨k, hk⟩ : ∃ k : Nat, q = (k : Int) - 1074 := ⟨(q + 1074).toNat, by omega⟩
  obtain ⟨u, hu⟩ : ∃ u : Nat, c = 4503599627370496 + u := ⟨c - 4503599627370496, by omega⟩
  have hu2 : u < 4503599627370496 := by omega
  have hk2 : k ≤ 2045 := by omega
  have e1 : FP.Core.encode FP.Core.b64 (.fin s c q) = (s.toNat * 2048 + (k + 1)) * 4503599627370496 + u := by
    show (if c < FP.Core.Fmt.tails FP.Core.b64 then FP.Core.assemble FP.Core.b64 s 0 c else FP.Core.assemble FP.Core.b64 s ((q - FP.Core.Fmt.qmin FP.Core.b64).toNat + 1) (c - FP.Core.Fmt.tails FP.Core.b64)) = _
    unfold FP.Core.assemble
    rw [ht, hx, hm, if_neg (by omega), show (q - -1074).toNat = k by omega, show c - 4503599627370496 = u by omega]
  rw [e1]
  have hs : s.toNat ≤ 1 := by cases s <;> decide
  have e2 : (UInt64.ofNat ((s.toNat * 2048 + (k + 1)) * 4503599627370496 + u)).toNat = (s.toNat * 2048 + (k + 1)) * 4503599627370496 + u := UInt64.toNat_ofNat_of_lt' (by show _ < 18446744073709551616; omega)
  rw [e2]
  have f1 : ((s.toNat * 2048 + (k + 1)) * 4503599627370496 + u) / 4503599627370496 % 2048 = k + 1 := by omega
  have f2 : ((s.toNat * 2048 + (k + 1)) * 4503599627370496 + u) % 4503599627370496 = u := by omega
  have f3 : ((s.toNat * 2048 + (k + 1)) * 4503599627370496 + u) / 4503599627370496 / 2048 % 2 = s.toNat := by omega
  unfold FP.Core.decode FP.Core.fieldE FP.Core.fieldT FP.Core.fieldS
  rw [ht, hx, hm, f1, f2, f3, if_neg (by omega), if_neg (by omega)]
  have g1 : (s.toNat == 1) = s := by cases s <;> rfl
  rw [g1, show -1074 + (((k + 1 : Nat) : Int) - 1) = q by omega, ← hu]
theorem fp_go {v : Int64} {s : Bool} {c : Nat} {q : Int} (h : FP.Core.round FP.Core.b64 (FP.Core.ofInt v.toInt) = .fin s c q) (h1 : 2 ^ 52 ≤ c) (h2 : c < 2 ^ 53) (h3 : -1074 ≤ q) (h4 : q ≤ 971) : FP.d2l (FP.l2d v) = Int64.ofInt (max (-2 ^ 63) (min (2 ^ 63 - 1) (FP.Core.truncate s c q))) := by
  show Int64.ofInt (FP.Core.toInt (-2 ^ 63) (2 ^ 63 - 1) (FP.Core.decode FP.Core.b64 (UInt64.ofNat (FP.Core.encode FP.Core.b64 (FP.Core.round FP.Core.b64 (FP.Core.ofInt v.toInt)))).toNat)) = _
  rw [h, fp_dec s h1 h2 h3 h4]
  rfl
theorem fp_lead {n k : Nat} (h : n.log2 = k) (h0 : 0 < n) : FP.Core.leading n 1 = (k : Int) := by
  have a1 : 2 ^ n.log2 ≤ n := Nat.log2_self_le (by omega)
  have l1 : Nat.log2 1 = 0 := by decide +kernel
  rw [h] at a1
  show (if 1 * 2 ^ ((n.log2 : Int) - (Nat.log2 1 : Int)).toNat ≤ n * 2 ^ (-((n.log2 : Int) - (Nat.log2 1 : Int))).toNat then ((n.log2 : Int) - (Nat.log2 1 : Int)) else ((n.log2 : Int) - (Nat.log2 1 : Int)) - 1) = (k : Int)
  rw [l1, h, show ((k : Int) - ((0 : Nat) : Int)).toNat = k by omega, show (-((k : Int) - ((0 : Nat) : Int))).toNat = 0 by omega, Nat.pow_zero, Nat.mul_one, Nat.one_mul, if_pos a1]
  omega
theorem small_fp {v : Int64} (h : v.toInt.natAbs < 2 ^ 53) : v = FP.d2l (FP.l2d v) := by
  obtain ⟨n, hn⟩ : ∃ n, v.toInt.natAbs = n := ⟨_, rfl⟩
  rw [hn] at h
  rcases Nat.eq_zero_or_pos n with h0 | h0
  · have hv : v = 0 := Int64.toInt_inj.mp (by show v.toInt = 0; omega)
    rw [hv]
    decide +kernel
  · obtain ⟨k, hk⟩ : ∃ k, n.log2 = k := ⟨_, rfl⟩
    have a1 : 2 ^ k ≤ n := by rw [← hk]; exact Nat.log2_self_le (by omega)
    have a2 : n < 2 ^ (k + 1) := by rw [← hk]; exact Nat.lt_log2_self
    have hk52 : k ≤ 52 := by
      rcases Nat.lt_or_ge 52 k with q | q
      · have : 2 ^ 53 ≤ 2 ^ k := Nat.pow_le_pow_right (by decide) (by omega)
        omega
      · exact q
    obtain ⟨t, ht⟩ : ∃ t, k + t = 52 := ⟨52 - k, by omega⟩
    have hq : FP.Core.quantum FP.Core.b64 n 1 0 = -(t : Int) := by
      unfold FP.Core.quantum
      rw [fp_lead hk h0]
      have e1 : FP.Core.Fmt.qmin FP.Core.b64 = -1074 := by decide +kernel
      have e2 : (FP.Core.b64.p : Int) = 53 := by decide +kernel
      rw [e1, e2]
      omega
    have hc1 : 2 ^ 52 ≤ n * 2 ^ t := by
      rw [← ht, Nat.pow_add]
      exact Nat.mul_le_mul_right _ a1
    have hc2 : n * 2 ^ t < 2 ^ 53 := by
      rw [show 53 = (k + 1) + t by omega, Nat.pow_add]
      exact (Nat.mul_lt_mul_right (Nat.two_pow_pos t)).mpr a2
    have hr : FP.Core.round FP.Core.b64 (FP.Core.ofInt v.toInt) = .fin (decide (v.toInt < 0)) (n * 2 ^ t) (-(t : Int)) := by
      show FP.Core.roundRatio FP.Core.b64 (decide (v.toInt < 0)) v.toInt.natAbs 1 0 = _
      rw [hn]
      unfold FP.Core.roundRatio
      rw [if_neg (by omega), hq]
      unfold FP.Core.roundAt FP.Core.unitsNum FP.Core.unitsDen
      rw [show ((0 : Int) - -(t : Int)).toNat = t by omega, show (-(t : Int) - 0).toNat = 0 by omega]
      have hne : FP.Core.nearest (n * 2 ^ t) (1 * 2 ^ 0) = n * 2 ^ t := by
        unfold FP.Core.nearest
        rw [Nat.one_mul, Nat.pow_zero, Nat.mod_one, if_pos (by decide), Nat.div_one]
      rw [hne]
      unfold FP.Core.settle FP.Core.bound
      have hp : 2 ^ FP.Core.b64.p = 2 ^ 53 := by decide +kernel
      have hqmax : FP.Core.Fmt.qmax FP.Core.b64 = 971 := by decide +kernel
      rw [hp, hqmax, if_pos hc2, if_pos (by omega)]
    rw [fp_go hr hc1 hc2 (by omega) (by omega)]
    unfold FP.Core.truncate
    rw [show (-(t : Int)).toNat = 0 by omega, show (- -(t : Int)).toNat = t by omega, Nat.pow_zero, Nat.mul_one, Nat.mul_div_cancel _ (Nat.two_pow_pos t)]
    have hs : FP.Core.signed (decide (v.toInt < 0)) n = v.toInt := by
      unfold FP.Core.signed
      by_cases c : v.toInt < 0
      · rw [decide_eq_true c, if_pos rfl]; omega
      · rw [decide_eq_false c, if_neg (by decide)]; omega
    rw [hs, show max (-2 ^ 63) (min (2 ^ 63 - 1) v.toInt) = v.toInt by omega, Int64.ofInt_toInt]
theorem fp_big {v : Int64} {n m : Nat} (hn : v.toInt.natAbs = n) (h53 : 2 ^ 53 ≤ n) (hm1 : 2 ^ (52 + m) ≤ n) (hm2 : n < 2 ^ (53 + m)) (h10 : m ≤ 10) : FP.d2l (FP.l2d v) = Int64.ofInt (max (-2 ^ 63) (min (2 ^ 63 - 1) (FP.Core.signed (decide (v.toInt < 0)) (FP.Core.nearest n (2 ^ m) * 2 ^ m)))) := by
  have hlog : n.log2 = 52 + m := by
    have a1 : 2 ^ n.log2 ≤ n := Nat.log2_self_le (by omega)
    have a2 : n < 2 ^ (n.log2 + 1) := Nat.lt_log2_self
    rcases Nat.lt_trichotomy n.log2 (52 + m) with q | q | q
    · have : 2 ^ (n.log2 + 1) ≤ 2 ^ (52 + m) := Nat.pow_le_pow_right (by decide) (by omega)
      omega
    · exact q
    · have : 2 ^ (53 + m) ≤ 2 ^ n.log2 := Nat.pow_le_pow_right (by decide) (by omega)
      omega
  have hlead : FP.Core.leading n 1 = ((52 + m : Nat) : Int) := fp_lead hlog (by omega)
  have hq : FP.Core.quantum FP.Core.b64 n 1 0 = (m : Int) := by
    unfold FP.Core.quantum
    rw [hlead]
    have e1 : FP.Core.Fmt.qmin FP.Core.b64 = -1074 := by decide +kernel
    have e2 : (FP.Core.b64.p : Int) = 53 := by decide +kernel
    rw [e1, e2]
    omega
  have hnum : FP.Core.unitsNum n 0 (m : Int) = n := by
    unfold FP.Core.unitsNum
    rw [show ((0 : Int) - (m : Int)).toNat = 0 by omega, Nat.pow_zero, Nat.mul_one]
  have hden : FP.Core.unitsDen 1 0 (m : Int) = 2 ^ m := by
    unfold FP.Core.unitsDen
    rw [show ((m : Int) - 0).toNat = m by omega, Nat.one_mul]
  have hqmax : FP.Core.Fmt.qmax FP.Core.b64 = 971 := by decide +kernel
  have hp : 2 ^ FP.Core.b64.p = 2 ^ 53 := by decide +kernel
  have htl : FP.Core.Fmt.tails FP.Core.b64 = 2 ^ 52 := by decide +kernel
  have h1 := div_m hm2
  have h2 := near_up (n := n) (d := 2 ^ m)
  have h0 : 2 ^ 52 ≤ FP.Core.nearest n (2 ^ m) := by
    have a1 : 2 ^ 52 ≤ n / 2 ^ m := by
      rw [Nat.le_div_iff_mul_le (Nat.two_pow_pos m), ← Nat.pow_add]
      exact hm1
    unfold FP.Core.nearest
    split
    · omega
    · split <;> omega
  have hval : FP.Core.round FP.Core.b64 (FP.Core.ofInt v.toInt) = (if FP.Core.nearest n (2 ^ m) < 2 ^ 53 then FP.Core.Datum.fin (decide (v.toInt < 0)) (FP.Core.nearest n (2 ^ m)) (m : Int) else FP.Core.Datum.fin (decide (v.toInt < 0)) (2 ^ 52) ((m : Int) + 1)) := by
    show FP.Core.roundRatio FP.Core.b64 (decide (v.toInt < 0)) v.toInt.natAbs 1 0 = _
    rw [hn]
    unfold FP.Core.roundRatio
    rw [if_neg (by omega), hq]
    unfold FP.Core.roundAt
    rw [hnum, hden]
    unfold FP.Core.settle FP.Core.bound
    rw [hp, hqmax, htl]
    by_cases hc : FP.Core.nearest n (2 ^ m) < 2 ^ 53
    · rw [if_pos hc, if_pos (by omega), if_pos hc]
    · rw [if_neg hc, if_pos (by omega), if_neg hc]
  by_cases hc : FP.Core.nearest n (2 ^ m) < 2 ^ 53
  · rw [if_pos hc] at hval
    rw [fp_go hval h0 hc (by omega) (by omega)]
    unfold FP.Core.truncate
    rw [show ((m : Int)).toNat = m by omega, show (-(m : Int)).toNat = 0 by omega, Nat.pow_zero, Nat.div_one]
  · have he : FP.Core.nearest n (2 ^ m) = 2 ^ 53 := by omega
    rw [if_neg hc] at hval
    rw [fp_go hval (Nat.le_refl _) (by decide) (by omega) (by omega)]
    unfold FP.Core.truncate
    have e3 : 2 ^ 52 * 2 ^ (m + 1) = 2 ^ 53 * 2 ^ m := by
      have e4 : 2 ^ (m + 1) = 2 ^ m * 2 := Nat.pow_succ 2 m
      rw [e4]
      omega
    rw [show ((m : Int) + 1).toNat = m + 1 by omega, show (-((m : Int) + 1)).toNat = 0 by omega, Nat.pow_zero, Nat.div_one, he, e3]
set_option maxHeartbeats 4000000 in
set_option maxRecDepth 100000 in
theorem c_mrounded (l : Launch) {G : Gt} {ws : va_W} (sz : Nat) (v : Int64) : Met l yX6_rounded wsX6_rounded ({ frames := 0, cells := 0, slots := 0, locals := 0 } : Room) (Pw G [.long v] ws sz) (vp_Sl (fun r : Int64 => r = FP.d2l (FP.l2d v))) 0 0 (fun _ => False) := by
  refine Met_pw (cc := cX6_rounded) (maxL := 13) (ret := (some .long)) (by decide) rfl (Nat.le_of_ble_eq_true rfl) ?_
  intro p e s m below meth c ls hsz S9 hr hlk hnm w hl
  subst hsz
  replace S9 : CallFix p m c cX6_rounded 13 s _ wsX6_rounded RX6 := S9
  have hx := S9.1
  have hb := S9.2.1
  have hown := S9.2.2.2.1
  have hts := S9.2.2.2.2
  replace hl : lv_has ls 13 [(0, .long v)] := hl
  refine lv_lload_n hx hb dX6_rounded_0 rfl (lv_at hl 0 rfl) ?_
  refine lv_ldc2 (v := (-9007199254740992)) hx hb hown (hts (.constantLong RX6 56 (-9007199254740992)) (by decide +kernel)) dX6_rounded_1 ?_
  refine W.lcmp hx hb dX6_rounded_4 ?_
  refine lv_topi (fun v1 ev1 => ?_)
  refine lv_if_le (tgt := 16) hx hb dX6_rounded_5 (by decide) (fun c_5 => ?_) (fun c_5 => ?_)
  · have hneg : v.toInt ≤ -9007199254740992 := by
      have := (lc_le ev1).mp c_5
      have e1 : (-9007199254740992 : Int64).toInt = -9007199254740992 := rfl
      omega
    refine lv_lload_n hx hb dX6_rounded_16 rfl (lv_at hl 0 rfl) ?_
    refine lv_ldc2 (v := (-9223372036854775808)) hx hb hown (hts (.constantLong RX6 60 (-9223372036854775808)) (by decide +kernel)) dX6_rounded_17 ?_
    refine W.lcmp hx hb dX6_rounded_20 ?_
    refine lv_topi (fun v2 ev2 => ?_)
    refine lv_if_ne (tgt := 26) hx hb dX6_rounded_21 (by decide) (fun c_21 => ?_) (fun c_21 => ?_)
    · have vb := v.toInt_lt
      have vl := v.le_toInt
      have hmin : ¬ v.toInt = -9223372036854775808 := by
        intro h
        exact c_21 ((lc_eq ev2).mpr (h.trans (show (-9223372036854775808 : Int) = (-9223372036854775808 : Int64).toInt from rfl)))
      obtain ⟨n, hn⟩ : ∃ n, v.toInt.natAbs = n := ⟨_, rfl⟩
      have n53 : 2 ^ 53 ≤ n := by omega
      have n63 : n < 2 ^ 63 := by omega
      obtain ⟨m, m1, m10, hm1, hm2⟩ := ex_m n53 n63
      have hfp := fp_big hn n53 hm1 hm2 m10
      refine lv_lload_n hx hb dX6_rounded_26 rfl (lv_at hl 0 rfl) ?_
      refine lv_lconst (v := 0) hx hb dX6_rounded_27 (by decide) ?_
      refine W.lcmp hx hb dX6_rounded_28 ?_
      refine lv_topi (fun v3 ev3 => ?_)
      have c29 : ¬ 0 ≤ v3 := fun h => by
        have := (lc_ge ev3).mp h
        have e0 : (0 : Int64).toInt = 0 := rfl
        omega
      refine lv_if_ge (tgt := 37) hx hb dX6_rounded_29 (by decide) (fun c_29 => absurd c_29 c29) (fun c_29 => ?_)
      refine lv_lload_n hx hb dX6_rounded_32 rfl (lv_at hl 0 rfl) ?_
      refine lv_lneg hx hb dX6_rounded_33 ?_
      refine lv_topl (fun v4 ev4 => ?_)
      refine lv_goto (tgt := 38) hx hb dX6_rounded_34 (by decide) ?_
      have xa : v4 = lN n := by rw [ev4]; exact neg_nat (by omega) n63
      refine lv_lstore_n (lv' := [(2, .long v4), (0, .long v)]) hx hb dX6_rounded_38 rfl hl (by decide) rfl (fun ls hl => ?_)
      refine lv_iconst (v := 0) hx hb dX6_rounded_39 (by decide) ?_
      refine lv_istore (lv' := [(4, .int 0), (2, .long v4), (0, .long v)]) hx hb dX6_rounded_40 hl (by decide) rfl (fun ls hl => ?_)
      obtain ⟨t, ht, hy⟩ : ∃ t : Nat, t ≤ m ∧ (0 : Int32) = nI t := ⟨0, by omega, rfl⟩
      generalize (0 : Int32) = y at hl hy
      obtain ⟨gg, hg⟩ : ∃ gg, m - t < gg := ⟨_, Nat.lt_succ_self _⟩
      induction gg generalizing t y ls with
      | zero => exact absurd hg (Nat.not_lt_zero _)
      | succ gg ih =>
        refine lv_lload_n hx hb dX6_rounded_42 rfl (lv_at hl 1 rfl) ?_
        refine lv_iload hx hb dX6_rounded_43 (lv_at hl 0 rfl) ?_
        obtain ⟨v5, ev5⟩ : ∃ z : Int64, v4 >>> (y.toInt64 &&& 63) = z := ⟨_, rfl⟩
        refine lv_lshr (v := v5) hx hb dX6_rounded_45 ev5 ?_
        have xs : v5 = lN (n / 2 ^ t) := by rw [← ev5, xa, hy]; exact ls_shr n63 (by omega)
        refine lv_ldc2 (v := 9007199254740991) hx hb hown (hts (.constantLong RX6 62 (9007199254740991)) (by decide +kernel)) dX6_rounded_46 ?_
        refine W.lcmp hx hb dX6_rounded_49 ?_
        refine lv_topi (fun v6 ev6 => ?_)
        refine lv_if_le (tgt := 59) hx hb dX6_rounded_50 (by decide) (fun c_50 => ?_) (fun c_50 => ?_)
        · have htm : t = m := by
            rcases Nat.lt_or_ge t m with q | q
            · exfalso
              have h1 := (lc_le ev6).mp c_50
              rw [xs, pk_lT (by have := Nat.div_le_self n (2 ^ t); omega)] at h1
              have := div_lt hm1 q
              have e1 : (9007199254740991 : Int64).toInt = 9007199254740991 := rfl
              omega
            · omega
          subst htm
          clear ih
          refine lv_lload_n hx hb dX6_rounded_59 rfl (lv_at hl 1 rfl) ?_
          refine lv_lconst (v := 1) hx hb dX6_rounded_60 (by decide) ?_
          refine lv_iload hx hb dX6_rounded_61 (lv_at hl 0 rfl) ?_
          obtain ⟨v7, ev7⟩ : ∃ z : Int64, (1 : Int64) <<< (y.toInt64 &&& 63) = z := ⟨_, rfl⟩
          refine lv_lshl (v := v7) hx hb dX6_rounded_63 ev7 ?_
          refine lv_lconst (v := 1) hx hb dX6_rounded_64 (by decide) ?_
          refine lv_lsub hx hb dX6_rounded_65 ?_
          refine lv_topl (fun v8 ev8 => ?_)
          refine lv_land hx hb dX6_rounded_66 ?_
          refine lv_topl (fun v9 ev9 => ?_)
          have xr : v9 = lN (n % 2 ^ t) := by rw [ev9, ev8, ← ev7, xa, hy]; exact rd_rest n63 (by omega)
          refine lv_lstore (lv' := [(5, .long v9), (4, .int y), (2, .long v4), (0, .long v)]) hx hb dX6_rounded_67 hl (by decide) rfl (fun ls hl => ?_)
          refine lv_lconst (v := 1) hx hb dX6_rounded_69 (by decide) ?_
          refine lv_iload hx hb dX6_rounded_70 (lv_at hl 1 rfl) ?_
          refine lv_iconst (v := 1) hx hb dX6_rounded_72 (by decide) ?_
          refine lv_isub hx hb dX6_rounded_73 ?_
          refine lv_topi (fun v10 ev10 => ?_)
          obtain ⟨v11, ev11⟩ : ∃ z : Int64, (1 : Int64) <<< (v10.toInt64 &&& 63) = z := ⟨_, rfl⟩
          refine lv_lshl (v := v11) hx hb dX6_rounded_74 ev11 ?_
          have xh : v11 = lN (2 ^ (t - 1)) := by rw [← ev11, ev10, hy]; exact rd_half m1 (by omega)
          refine lv_lstore (lv' := [(7, .long v11), (5, .long v9), (4, .int y), (2, .long v4), (0, .long v)]) hx hb dX6_rounded_75 hl (by decide) rfl (fun ls hl => ?_)
          refine lv_lload_n hx hb dX6_rounded_77 rfl (lv_at hl 3 rfl) ?_
          refine lv_iload hx hb dX6_rounded_78 (lv_at hl 2 rfl) ?_
          obtain ⟨v12, ev12⟩ : ∃ z : Int64, v4 >>> (y.toInt64 &&& 63) = z := ⟨_, rfl⟩
          refine lv_lshr (v := v12) hx hb dX6_rounded_80 ev12 ?_
          have xu0 : v12 = lN (n / 2 ^ t) := by rw [← ev12, xa, hy]; exact ls_shr n63 (by omega)
          refine lv_lstore (lv' := [(9, .long v12), (7, .long v11), (5, .long v9), (4, .int y), (2, .long v4), (0, .long v)]) hx hb dX6_rounded_81 hl (by decide) rfl (fun ls hl => ?_)
          refine lv_lload hx hb dX6_rounded_83 (lv_at hl 2 rfl) ?_
          refine lv_lload hx hb dX6_rounded_85 (lv_at hl 1 rfl) ?_
          refine W.lcmp hx hb dX6_rounded_87 ?_
          refine lv_topi (fun v13 ev13 => ?_)
          have b1 : n % 2 ^ t < 2 ^ 63 := Nat.lt_of_le_of_lt (Nat.mod_le _ _) n63
          have b2 : 2 ^ (t - 1) < 2 ^ 63 := Nat.pow_lt_pow_right (by decide) (by omega)
          refine lv_if_gt (tgt := 108) hx hb dX6_rounded_88 (by decide) (fun c_88 => ?_) (fun c_88 => ?_)
          · rw [lc_gt ev13, xr, xh, pk_lT b1, pk_lT b2] at c_88
            refine lv_lload hx hb dX6_rounded_108 (lv_at hl 0 rfl) ?_
            refine lv_lconst (v := 1) hx hb dX6_rounded_110 (by decide) ?_
            refine lv_ladd hx hb dX6_rounded_111 ?_
            refine lv_topl (fun v14 ev14 => ?_)
            refine lv_lstore (lv' := [(9, .long v14), (7, .long v11), (5, .long v9), (4, .int y), (2, .long v4), (0, .long v)]) hx hb dX6_rounded_112 hl (by decide) rfl (fun ls hl => ?_)
            have hp := pow_half (m := t) m1
            have xu : v14 = lN (FP.Core.nearest n (2 ^ t)) := by
              rw [ev14, xu0, lN_1]
              congr 1
              unfold FP.Core.nearest
              rw [if_neg (by omega), if_pos (by omega)]
            have hN := near_le (m := t) hm2 m10
            refine lv_lload hx hb dX6_rounded_114 (lv_at hl 0 rfl) ?_
            refine lv_iload hx hb dX6_rounded_116 (lv_at hl 3 rfl) ?_
            obtain ⟨v15, ev15⟩ : ∃ z : Int64, v14 <<< (y.toInt64 &&& 63) = z := ⟨_, rfl⟩
            refine lv_lshl (v := v15) hx hb dX6_rounded_118 ev15 ?_
            have xl : v15 = lN (FP.Core.nearest n (2 ^ t) * 2 ^ t) := by rw [← ev15, xu, hy]; exact wb_shl _ (by omega)
            refine lv_lstore (lv' := [(11, .long v15), (9, .long v14), (7, .long v11), (5, .long v9), (4, .int y), (2, .long v4), (0, .long v)]) hx hb dX6_rounded_119 hl (by decide) rfl (fun ls hl => ?_)
            refine lv_lload_n hx hb dX6_rounded_121 rfl (lv_at hl 6 rfl) ?_
            refine lv_lconst (v := 0) hx hb dX6_rounded_122 (by decide) ?_
            refine W.lcmp hx hb dX6_rounded_123 ?_
            refine lv_topi (fun v16 ev16 => ?_)
            have c124 : ¬ 0 ≤ v16 := fun h => by
              have := (lc_ge ev16).mp h
              have e0 : (0 : Int64).toInt = 0 := rfl
              omega
            refine lv_if_ge (tgt := 131) hx hb dX6_rounded_124 (by decide) (fun c_124 => absurd c_124 c124) (fun c_124 => ?_)
            refine lv_lload hx hb dX6_rounded_127 (lv_at hl 0 rfl) ?_
            refine lv_lneg hx hb dX6_rounded_129 ?_
            refine lv_topl (fun v17 ev17 => ?_)
            exact e_l S9 hr hlk (by rw [hfp, decide_eq_true (show v.toInt < 0 by omega), ev17, xl]; exact rnd_neg hN) dX6_rounded_130
          · rw [lc_gt ev13, xr, xh, pk_lT b1, pk_lT b2] at c_88
            refine lv_lload hx hb dX6_rounded_91 (lv_at hl 2 rfl) ?_
            refine lv_lload hx hb dX6_rounded_93 (lv_at hl 1 rfl) ?_
            refine W.lcmp hx hb dX6_rounded_95 ?_
            refine lv_topi (fun v18 ev18 => ?_)
            refine lv_if_ne (tgt := 114) hx hb dX6_rounded_96 (by decide) (fun c_96 => ?_) (fun c_96 => ?_)
            · rw [lc_eq ev18, xr, xh, pk_lT b1, pk_lT b2] at c_96
              have hp := pow_half (m := t) m1
              have xu : v12 = lN (FP.Core.nearest n (2 ^ t)) := by
                rw [xu0]
                congr 1
                unfold FP.Core.nearest
                rw [if_pos (by omega)]
              have hN := near_le (m := t) hm2 m10
              refine lv_lload hx hb dX6_rounded_114 (lv_at hl 0 rfl) ?_
              refine lv_iload hx hb dX6_rounded_116 (lv_at hl 3 rfl) ?_
              obtain ⟨v19, ev19⟩ : ∃ z : Int64, v12 <<< (y.toInt64 &&& 63) = z := ⟨_, rfl⟩
              refine lv_lshl (v := v19) hx hb dX6_rounded_118 ev19 ?_
              have xl : v19 = lN (FP.Core.nearest n (2 ^ t) * 2 ^ t) := by rw [← ev19, xu, hy]; exact wb_shl _ (by omega)
              refine lv_lstore (lv' := [(11, .long v19), (9, .long v12), (7, .long v11), (5, .long v9), (4, .int y), (2, .long v4), (0, .long v)]) hx hb dX6_rounded_119 hl (by decide) rfl (fun ls hl => ?_)
              refine lv_lload_n hx hb dX6_rounded_121 rfl (lv_at hl 6 rfl) ?_
              refine lv_lconst (v := 0) hx hb dX6_rounded_122 (by decide) ?_
              refine W.lcmp hx hb dX6_rounded_123 ?_
              refine lv_topi (fun v20 ev20 => ?_)
              have c124 : ¬ 0 ≤ v20 := fun h => by
                have := (lc_ge ev20).mp h
                have e0 : (0 : Int64).toInt = 0 := rfl
                omega
              refine lv_if_ge (tgt := 131) hx hb dX6_rounded_124 (by decide) (fun c_124 => absurd c_124 c124) (fun c_124 => ?_)
              refine lv_lload hx hb dX6_rounded_127 (lv_at hl 0 rfl) ?_
              refine lv_lneg hx hb dX6_rounded_129 ?_
              refine lv_topl (fun v21 ev21 => ?_)
              exact e_l S9 hr hlk (by rw [hfp, decide_eq_true (show v.toInt < 0 by omega), ev21, xl]; exact rnd_neg hN) dX6_rounded_130
            · rw [lc_eq ev18, xr, xh, pk_lT b1, pk_lT b2] at c_96
              refine lv_lload hx hb dX6_rounded_99 (lv_at hl 0 rfl) ?_
              refine lv_lconst (v := 1) hx hb dX6_rounded_101 (by decide) ?_
              refine lv_land hx hb dX6_rounded_102 ?_
              refine lv_topl (fun v22 ev22 => ?_)
              refine lv_lconst (v := 1) hx hb dX6_rounded_103 (by decide) ?_
              refine W.lcmp hx hb dX6_rounded_104 ?_
              refine lv_topi (fun v23 ev23 => ?_)
              have b3 : n / 2 ^ t < 2 ^ 63 := Nat.lt_of_le_of_lt (Nat.div_le_self _ _) n63
              refine lv_if_ne (tgt := 114) hx hb dX6_rounded_105 (by decide) (fun c_105 => ?_) (fun c_105 => ?_)
              · rw [lc_eq ev23, ev22, xu0, wb_a1 (by omega), pk_lT (by omega), show (1 : Int64).toInt = 1 from rfl] at c_105
                have hp := pow_half (m := t) m1
                have xu : v12 = lN (FP.Core.nearest n (2 ^ t)) := by
                  rw [xu0]
                  congr 1
                  unfold FP.Core.nearest
                  rw [if_neg (by omega), if_neg (by omega)]
                  omega
                have hN := near_le (m := t) hm2 m10
                refine lv_lload hx hb dX6_rounded_114 (lv_at hl 0 rfl) ?_
                refine lv_iload hx hb dX6_rounded_116 (lv_at hl 3 rfl) ?_
                obtain ⟨v24, ev24⟩ : ∃ z : Int64, v12 <<< (y.toInt64 &&& 63) = z := ⟨_, rfl⟩
                refine lv_lshl (v := v24) hx hb dX6_rounded_118 ev24 ?_
                have xl : v24 = lN (FP.Core.nearest n (2 ^ t) * 2 ^ t) := by rw [← ev24, xu, hy]; exact wb_shl _ (by omega)
                refine lv_lstore (lv' := [(11, .long v24), (9, .long v12), (7, .long v11), (5, .long v9), (4, .int y), (2, .long v4), (0, .long v)]) hx hb dX6_rounded_119 hl (by decide) rfl (fun ls hl => ?_)
                refine lv_lload_n hx hb dX6_rounded_121 rfl (lv_at hl 6 rfl) ?_
                refine lv_lconst (v := 0) hx hb dX6_rounded_122 (by decide) ?_
                refine W.lcmp hx hb dX6_rounded_123 ?_
                refine lv_topi (fun v25 ev25 => ?_)
                have c124 : ¬ 0 ≤ v25 := fun h => by
                  have := (lc_ge ev25).mp h
                  have e0 : (0 : Int64).toInt = 0 := rfl
                  omega
                refine lv_if_ge (tgt := 131) hx hb dX6_rounded_124 (by decide) (fun c_124 => absurd c_124 c124) (fun c_124 => ?_)
                refine lv_lload hx hb dX6_rounded_127 (lv_at hl 0 rfl) ?_
                refine lv_lneg hx hb dX6_rounded_129 ?_
                refine lv_topl (fun v26 ev26 => ?_)
                exact e_l S9 hr hlk (by rw [hfp, decide_eq_true (show v.toInt < 0 by omega), ev26, xl]; exact rnd_neg hN) dX6_rounded_130
              · rw [lc_eq ev23, ev22, xu0, wb_a1 (by omega), pk_lT (by omega), show (1 : Int64).toInt = 1 from rfl] at c_105
                refine lv_lload hx hb dX6_rounded_108 (lv_at hl 0 rfl) ?_
                refine lv_lconst (v := 1) hx hb dX6_rounded_110 (by decide) ?_
                refine lv_ladd hx hb dX6_rounded_111 ?_
                refine lv_topl (fun v27 ev27 => ?_)
                refine lv_lstore (lv' := [(9, .long v27), (7, .long v11), (5, .long v9), (4, .int y), (2, .long v4), (0, .long v)]) hx hb dX6_rounded_112 hl (by decide) rfl (fun ls hl => ?_)
                have hp := pow_half (m := t) m1
                have xu : v27 = lN (FP.Core.nearest n (2 ^ t)) := by
                  rw [ev27, xu0, lN_1]
                  congr 1
                  unfold FP.Core.nearest
                  rw [if_neg (by omega), if_neg (by omega)]
                  omega
                have hN := near_le (m := t) hm2 m10
                refine lv_lload hx hb dX6_rounded_114 (lv_at hl 0 rfl) ?_
                refine lv_iload hx hb dX6_rounded_116 (lv_at hl 3 rfl) ?_
                obtain ⟨v28, ev28⟩ : ∃ z : Int64, v27 <<< (y.toInt64 &&& 63) = z := ⟨_, rfl⟩
                refine lv_lshl (v := v28) hx hb dX6_rounded_118 ev28 ?_
                have xl : v28 = lN (FP.Core.nearest n (2 ^ t) * 2 ^ t) := by rw [← ev28, xu, hy]; exact wb_shl _ (by omega)
                refine lv_lstore (lv' := [(11, .long v28), (9, .long v27), (7, .long v11), (5, .long v9), (4, .int y), (2, .long v4), (0, .long v)]) hx hb dX6_rounded_119 hl (by decide) rfl (fun ls hl => ?_)
                refine lv_lload_n hx hb dX6_rounded_121 rfl (lv_at hl 6 rfl) ?_
                refine lv_lconst (v := 0) hx hb dX6_rounded_122 (by decide) ?_
                refine W.lcmp hx hb dX6_rounded_123 ?_
                refine lv_topi (fun v29 ev29 => ?_)
                have c124 : ¬ 0 ≤ v29 := fun h => by
                  have := (lc_ge ev29).mp h
                  have e0 : (0 : Int64).toInt = 0 := rfl
                  omega
                refine lv_if_ge (tgt := 131) hx hb dX6_rounded_124 (by decide) (fun c_124 => absurd c_124 c124) (fun c_124 => ?_)
                refine lv_lload hx hb dX6_rounded_127 (lv_at hl 0 rfl) ?_
                refine lv_lneg hx hb dX6_rounded_129 ?_
                refine lv_topl (fun v30 ev30 => ?_)
                exact e_l S9 hr hlk (by rw [hfp, decide_eq_true (show v.toInt < 0 by omega), ev30, xl]; exact rnd_neg hN) dX6_rounded_130
        · obtain ⟨v31, ev31⟩ : ∃ z : Int32, z = y + 1 := ⟨_, rfl⟩
          refine lv_iinc (v := v31) (lv' := [(4, .int v31), (2, .long v4), (0, .long v)]) hx hb dX6_rounded_53 hl (k := 0) rfl (by rw [ev31]; rfl) (by decide) rfl (fun ls hl => ?_)
          refine lv_goto (tgt := 42) hx hb dX6_rounded_56 (by decide) ?_
          have htm : t < m := by
            rcases Nat.lt_or_ge t m with q | q
            · exact q
            · exfalso
              have : t = m := by omega
              subst this
              refine c_50 ((lc_le ev6).mpr ?_)
              rw [xs, pk_lT (by have := Nat.div_le_self n (2 ^ t); omega)]
              have := div_m hm2
              have e1 : (9007199254740991 : Int64).toInt = 9007199254740991 := rfl
              omega
          exact ih (ls := ls) (t := t + 1) (y := v31) (ht := by omega) (hy := by rw [ev31, hy]; exact nI_1 t) (hl := lv_sub hl [0, 1, 2] rfl) (hg := by omega)
    · refine lv_lload_n hx hb dX6_rounded_24 rfl (lv_at hl 0 rfl) ?_
      exact e_l S9 hr hlk (by have h1 := (lc_eq ev2).mp c_21; have h2 : v = -9223372036854775808 := Int64.toInt_inj.mp h1; rw [h2]; decide +kernel) dX6_rounded_25
  · refine lv_lload_n hx hb dX6_rounded_8 rfl (lv_at hl 0 rfl) ?_
    refine lv_ldc2 (v := 9007199254740992) hx hb hown (hts (.constantLong RX6 58 (9007199254740992)) (by decide +kernel)) dX6_rounded_9 ?_
    refine W.lcmp hx hb dX6_rounded_12 ?_
    refine lv_topi (fun v32 ev32 => ?_)
    refine lv_if_lt (tgt := 24) hx hb dX6_rounded_13 (by decide) (fun c_13 => ?_) (fun c_13 => ?_)
    · refine lv_lload_n hx hb dX6_rounded_24 rfl (lv_at hl 0 rfl) ?_
      exact e_l S9 hr hlk (small_fp (by have h1 : ¬ v.toInt ≤ (-9007199254740992 : Int64).toInt := fun h => c_5 ((lc_le ev1).mpr h); have h2 := (lc_lt ev32).mp c_13; have e1 : (-9007199254740992 : Int64).toInt = -9007199254740992 := rfl; have e2 : (9007199254740992 : Int64).toInt = 9007199254740992 := rfl; omega)) dX6_rounded_25
    · have hpos : (9007199254740992 : Int) ≤ v.toInt := by
        have : ¬ v.toInt < (9007199254740992 : Int64).toInt := fun h => c_13 ((lc_lt ev32).mpr h)
        have e1 : (9007199254740992 : Int64).toInt = 9007199254740992 := rfl
        omega
      refine lv_lload_n hx hb dX6_rounded_16 rfl (lv_at hl 0 rfl) ?_
      refine lv_ldc2 (v := (-9223372036854775808)) hx hb hown (hts (.constantLong RX6 60 (-9223372036854775808)) (by decide +kernel)) dX6_rounded_17 ?_
      refine W.lcmp hx hb dX6_rounded_20 ?_
      refine lv_topi (fun v33 ev33 => ?_)
      refine lv_if_ne (tgt := 26) hx hb dX6_rounded_21 (by decide) (fun c_21 => ?_) (fun c_21 => ?_)
      · have vb := v.toInt_lt
        have vl := v.le_toInt
        have hmin : ¬ v.toInt = -9223372036854775808 := by
          intro h
          exact c_21 ((lc_eq ev33).mpr (h.trans (show (-9223372036854775808 : Int) = (-9223372036854775808 : Int64).toInt from rfl)))
        obtain ⟨n, hn⟩ : ∃ n, v.toInt.natAbs = n := ⟨_, rfl⟩
        have n53 : 2 ^ 53 ≤ n := by omega
        have n63 : n < 2 ^ 63 := by omega
        obtain ⟨m, m1, m10, hm1, hm2⟩ := ex_m n53 n63
        have hfp := fp_big hn n53 hm1 hm2 m10
        refine lv_lload_n hx hb dX6_rounded_26 rfl (lv_at hl 0 rfl) ?_
        refine lv_lconst (v := 0) hx hb dX6_rounded_27 (by decide) ?_
        refine W.lcmp hx hb dX6_rounded_28 ?_
        refine lv_topi (fun v34 ev34 => ?_)
        have c29 : 0 ≤ v34 := (lc_ge ev34).mpr (by
          have e0 : (0 : Int64).toInt = 0 := rfl
          omega)
        refine lv_if_ge (tgt := 37) hx hb dX6_rounded_29 (by decide) (fun c_29 => ?_) (fun c_29 => absurd c29 c_29)
        refine lv_lload_n hx hb dX6_rounded_37 rfl (lv_at hl 0 rfl) ?_
        have xa : v = lN n := pos_nat (by omega) n63
        refine lv_lstore_n (lv' := [(2, .long v), (0, .long v)]) hx hb dX6_rounded_38 rfl hl (by decide) rfl (fun ls hl => ?_)
        refine lv_iconst (v := 0) hx hb dX6_rounded_39 (by decide) ?_
        refine lv_istore (lv' := [(4, .int 0), (2, .long v), (0, .long v)]) hx hb dX6_rounded_40 hl (by decide) rfl (fun ls hl => ?_)
        obtain ⟨t, ht, hy⟩ : ∃ t : Nat, t ≤ m ∧ (0 : Int32) = nI t := ⟨0, by omega, rfl⟩
        generalize (0 : Int32) = y at hl hy
        obtain ⟨gg, hg⟩ : ∃ gg, m - t < gg := ⟨_, Nat.lt_succ_self _⟩
        induction gg generalizing t y ls with
        | zero => exact absurd hg (Nat.not_lt_zero _)
        | succ gg ih =>
          refine lv_lload_n hx hb dX6_rounded_42 rfl (lv_at hl 1 rfl) ?_
          refine lv_iload hx hb dX6_rounded_43 (lv_at hl 0 rfl) ?_
          obtain ⟨v35, ev35⟩ : ∃ z : Int64, v >>> (y.toInt64 &&& 63) = z := ⟨_, rfl⟩
          refine lv_lshr (v := v35) hx hb dX6_rounded_45 ev35 ?_
          have xs : v35 = lN (n / 2 ^ t) := by rw [← ev35, xa, hy]; exact ls_shr n63 (by omega)
          refine lv_ldc2 (v := 9007199254740991) hx hb hown (hts (.constantLong RX6 62 (9007199254740991)) (by decide +kernel)) dX6_rounded_46 ?_
          refine W.lcmp hx hb dX6_rounded_49 ?_
          refine lv_topi (fun v36 ev36 => ?_)
          refine lv_if_le (tgt := 59) hx hb dX6_rounded_50 (by decide) (fun c_50 => ?_) (fun c_50 => ?_)
          · have htm : t = m := by
              rcases Nat.lt_or_ge t m with q | q
              · exfalso
                have h1 := (lc_le ev36).mp c_50
                rw [xs, pk_lT (by have := Nat.div_le_self n (2 ^ t); omega)] at h1
                have := div_lt hm1 q
                have e1 : (9007199254740991 : Int64).toInt = 9007199254740991 := rfl
                omega
              · omega
            subst htm
            clear ih
            refine lv_lload_n hx hb dX6_rounded_59 rfl (lv_at hl 1 rfl) ?_
            refine lv_lconst (v := 1) hx hb dX6_rounded_60 (by decide) ?_
            refine lv_iload hx hb dX6_rounded_61 (lv_at hl 0 rfl) ?_
            obtain ⟨v37, ev37⟩ : ∃ z : Int64, (1 : Int64) <<< (y.toInt64 &&& 63) = z := ⟨_, rfl⟩
            refine lv_lshl (v := v37) hx hb dX6_rounded_63 ev37 ?_
            refine lv_lconst (v := 1) hx hb dX6_rounded_64 (by decide) ?_
            refine lv_lsub hx hb dX6_rounded_65 ?_
            refine lv_topl (fun v38 ev38 => ?_)
            refine lv_land hx hb dX6_rounded_66 ?_
            refine lv_topl (fun v39 ev39 => ?_)
            have xr : v39 = lN (n % 2 ^ t) := by rw [ev39, ev38, ← ev37, xa, hy]; exact rd_rest n63 (by omega)
            refine lv_lstore (lv' := [(5, .long v39), (4, .int y), (2, .long v), (0, .long v)]) hx hb dX6_rounded_67 hl (by decide) rfl (fun ls hl => ?_)
            refine lv_lconst (v := 1) hx hb dX6_rounded_69 (by decide) ?_
            refine lv_iload hx hb dX6_rounded_70 (lv_at hl 1 rfl) ?_
            refine lv_iconst (v := 1) hx hb dX6_rounded_72 (by decide) ?_
            refine lv_isub hx hb dX6_rounded_73 ?_
            refine lv_topi (fun v40 ev40 => ?_)
            obtain ⟨v41, ev41⟩ : ∃ z : Int64, (1 : Int64) <<< (v40.toInt64 &&& 63) = z := ⟨_, rfl⟩
            refine lv_lshl (v := v41) hx hb dX6_rounded_74 ev41 ?_
            have xh : v41 = lN (2 ^ (t - 1)) := by rw [← ev41, ev40, hy]; exact rd_half m1 (by omega)
            refine lv_lstore (lv' := [(7, .long v41), (5, .long v39), (4, .int y), (2, .long v), (0, .long v)]) hx hb dX6_rounded_75 hl (by decide) rfl (fun ls hl => ?_)
            refine lv_lload_n hx hb dX6_rounded_77 rfl (lv_at hl 3 rfl) ?_
            refine lv_iload hx hb dX6_rounded_78 (lv_at hl 2 rfl) ?_
            obtain ⟨v42, ev42⟩ : ∃ z : Int64, v >>> (y.toInt64 &&& 63) = z := ⟨_, rfl⟩
            refine lv_lshr (v := v42) hx hb dX6_rounded_80 ev42 ?_
            have xu0 : v42 = lN (n / 2 ^ t) := by rw [← ev42, xa, hy]; exact ls_shr n63 (by omega)
            refine lv_lstore (lv' := [(9, .long v42), (7, .long v41), (5, .long v39), (4, .int y), (2, .long v), (0, .long v)]) hx hb dX6_rounded_81 hl (by decide) rfl (fun ls hl => ?_)
            refine lv_lload hx hb dX6_rounded_83 (lv_at hl 2 rfl) ?_
            refine lv_lload hx hb dX6_rounded_85 (lv_at hl 1 rfl) ?_
            refine W.lcmp hx hb dX6_rounded_87 ?_
            refine lv_topi (fun v43 ev43 => ?_)
            have b1 : n % 2 ^ t < 2 ^ 63 := Nat.lt_of_le_of_lt (Nat.mod_le _ _) n63
            have b2 : 2 ^ (t - 1) < 2 ^ 63 := Nat.pow_lt_pow_right (by decide) (by omega)
            refine lv_if_gt (tgt := 108) hx hb dX6_rounded_88 (by decide) (fun c_88 => ?_) (fun c_88 => ?_)
            · rw [lc_gt ev43, xr, xh, pk_lT b1, pk_lT b2] at c_88
              refine lv_lload hx hb dX6_rounded_108 (lv_at hl 0 rfl) ?_
              refine lv_lconst (v := 1) hx hb dX6_rounded_110 (by decide) ?_
              refine lv_ladd hx hb dX6_rounded_111 ?_
              refine lv_topl (fun v44 ev44 => ?_)
              refine lv_lstore (lv' := [(9, .long v44), (7, .long v41), (5, .long v39), (4, .int y), (2, .long v), (0, .long v)]) hx hb dX6_rounded_112 hl (by decide) rfl (fun ls hl => ?_)
              have hp := pow_half (m := t) m1
              have xu : v44 = lN (FP.Core.nearest n (2 ^ t)) := by
                rw [ev44, xu0, lN_1]
                congr 1
                unfold FP.Core.nearest
                rw [if_neg (by omega), if_pos (by omega)]
              have hN := near_le (m := t) hm2 m10
              refine lv_lload hx hb dX6_rounded_114 (lv_at hl 0 rfl) ?_
              refine lv_iload hx hb dX6_rounded_116 (lv_at hl 3 rfl) ?_
              obtain ⟨v45, ev45⟩ : ∃ z : Int64, v44 <<< (y.toInt64 &&& 63) = z := ⟨_, rfl⟩
              refine lv_lshl (v := v45) hx hb dX6_rounded_118 ev45 ?_
              have xl : v45 = lN (FP.Core.nearest n (2 ^ t) * 2 ^ t) := by rw [← ev45, xu, hy]; exact wb_shl _ (by omega)
              refine lv_lstore (lv' := [(11, .long v45), (9, .long v44), (7, .long v41), (5, .long v39), (4, .int y), (2, .long v), (0, .long v)]) hx hb dX6_rounded_119 hl (by decide) rfl (fun ls hl => ?_)
              refine lv_lload_n hx hb dX6_rounded_121 rfl (lv_at hl 6 rfl) ?_
              refine lv_lconst (v := 0) hx hb dX6_rounded_122 (by decide) ?_
              refine W.lcmp hx hb dX6_rounded_123 ?_
              refine lv_topi (fun v46 ev46 => ?_)
              have c124 : 0 ≤ v46 := (lc_ge ev46).mpr (by
                have e0 : (0 : Int64).toInt = 0 := rfl
                omega)
              refine lv_if_ge (tgt := 131) hx hb dX6_rounded_124 (by decide) (fun c_124 => ?_) (fun c_124 => absurd c124 c_124)
              refine lv_lload hx hb dX6_rounded_131 (lv_at hl 0 rfl) ?_
              refine lv_lconst (v := 0) hx hb dX6_rounded_133 (by decide) ?_
              refine W.lcmp hx hb dX6_rounded_134 ?_
              refine lv_topi (fun v47 ev47 => ?_)
              refine lv_if_ge (tgt := 144) hx hb dX6_rounded_135 (by decide) (fun c_135 => ?_) (fun c_135 => ?_)
              · rw [lc_ge ev47, xl, show (0 : Int64).toInt = 0 from rfl] at c_135
                refine lv_lload hx hb dX6_rounded_144 (lv_at hl 0 rfl) ?_
                exact e_l S9 hr hlk (by have h5 : FP.Core.nearest n (2 ^ t) * 2 ^ t < 2 ^ 63 := low_nat hN c_135; rw [hfp, decide_eq_false (show ¬ v.toInt < 0 by omega), xl]; exact rnd_pos h5) dX6_rounded_146
              · rw [lc_ge ev47, xl, show (0 : Int64).toInt = 0 from rfl] at c_135
                refine lv_ldc2 (v := 9223372036854775807) hx hb hown (hts (.constantLong RX6 64 (9223372036854775807)) (by decide +kernel)) dX6_rounded_138 ?_
                refine lv_goto (tgt := 146) hx hb dX6_rounded_141 (by decide) ?_
                exact e_l S9 hr hlk (by have h5 : FP.Core.nearest n (2 ^ t) * 2 ^ t = 2 ^ 63 := top_nat hN c_135; rw [hfp, decide_eq_false (show ¬ v.toInt < 0 by omega), h5]; decide +kernel) dX6_rounded_146
            · rw [lc_gt ev43, xr, xh, pk_lT b1, pk_lT b2] at c_88
              refine lv_lload hx hb dX6_rounded_91 (lv_at hl 2 rfl) ?_
              refine lv_lload hx hb dX6_rounded_93 (lv_at hl 1 rfl) ?_
              refine W.lcmp hx hb dX6_rounded_95 ?_
              refine lv_topi (fun v48 ev48 => ?_)
              refine lv_if_ne (tgt := 114) hx hb dX6_rounded_96 (by decide) (fun c_96 => ?_) (fun c_96 => ?_)
              · rw [lc_eq ev48, xr, xh, pk_lT b1, pk_lT b2] at c_96
                have hp := pow_half (m := t) m1
                have xu : v42 = lN (FP.Core.nearest n (2 ^ t)) := by
                  rw [xu0]
                  congr 1
                  unfold FP.Core.nearest
                  rw [if_pos (by omega)]
                have hN := near_le (m := t) hm2 m10
                refine lv_lload hx hb dX6_rounded_114 (lv_at hl 0 rfl) ?_
                refine lv_iload hx hb dX6_rounded_116 (lv_at hl 3 rfl) ?_
                obtain ⟨v49, ev49⟩ : ∃ z : Int64, v42 <<< (y.toInt64 &&& 63) = z := ⟨_, rfl⟩
                refine lv_lshl (v := v49) hx hb dX6_rounded_118 ev49 ?_
                have xl : v49 = lN (FP.Core.nearest n (2 ^ t) * 2 ^ t) := by rw [← ev49, xu, hy]; exact wb_shl _ (by omega)
                refine lv_lstore (lv' := [(11, .long v49), (9, .long v42), (7, .long v41), (5, .long v39), (4, .int y), (2, .long v), (0, .long v)]) hx hb dX6_rounded_119 hl (by decide) rfl (fun ls hl => ?_)
                refine lv_lload_n hx hb dX6_rounded_121 rfl (lv_at hl 6 rfl) ?_
                refine lv_lconst (v := 0) hx hb dX6_rounded_122 (by decide) ?_
                refine W.lcmp hx hb dX6_rounded_123 ?_
                refine lv_topi (fun v50 ev50 => ?_)
                have c124 : 0 ≤ v50 := (lc_ge ev50).mpr (by
                  have e0 : (0 : Int64).toInt = 0 := rfl
                  omega)
                refine lv_if_ge (tgt := 131) hx hb dX6_rounded_124 (by decide) (fun c_124 => ?_) (fun c_124 => absurd c124 c_124)
                refine lv_lload hx hb dX6_rounded_131 (lv_at hl 0 rfl) ?_
                refine lv_lconst (v := 0) hx hb dX6_rounded_133 (by decide) ?_
                refine W.lcmp hx hb dX6_rounded_134 ?_
                refine lv_topi (fun v51 ev51 => ?_)
                refine lv_if_ge (tgt := 144) hx hb dX6_rounded_135 (by decide) (fun c_135 => ?_) (fun c_135 => ?_)
                · rw [lc_ge ev51, xl, show (0 : Int64).toInt = 0 from rfl] at c_135
                  refine lv_lload hx hb dX6_rounded_144 (lv_at hl 0 rfl) ?_
                  exact e_l S9 hr hlk (by have h5 : FP.Core.nearest n (2 ^ t) * 2 ^ t < 2 ^ 63 := low_nat hN c_135; rw [hfp, decide_eq_false (show ¬ v.toInt < 0 by omega), xl]; exact rnd_pos h5) dX6_rounded_146
                · rw [lc_ge ev51, xl, show (0 : Int64).toInt = 0 from rfl] at c_135
                  refine lv_ldc2 (v := 9223372036854775807) hx hb hown (hts (.constantLong RX6 64 (9223372036854775807)) (by decide +kernel)) dX6_rounded_138 ?_
                  refine lv_goto (tgt := 146) hx hb dX6_rounded_141 (by decide) ?_
                  exact e_l S9 hr hlk (by have h5 : FP.Core.nearest n (2 ^ t) * 2 ^ t = 2 ^ 63 := top_nat hN c_135; rw [hfp, decide_eq_false (show ¬ v.toInt < 0 by omega), h5]; decide +kernel) dX6_rounded_146
              · rw [lc_eq ev48, xr, xh, pk_lT b1, pk_lT b2] at c_96
                refine lv_lload hx hb dX6_rounded_99 (lv_at hl 0 rfl) ?_
                refine lv_lconst (v := 1) hx hb dX6_rounded_101 (by decide) ?_
                refine lv_land hx hb dX6_rounded_102 ?_
                refine lv_topl (fun v52 ev52 => ?_)
                refine lv_lconst (v := 1) hx hb dX6_rounded_103 (by decide) ?_
                refine W.lcmp hx hb dX6_rounded_104 ?_
                refine lv_topi (fun v53 ev53 => ?_)
                have b3 : n / 2 ^ t < 2 ^ 63 := Nat.lt_of_le_of_lt (Nat.div_le_self _ _) n63
                refine lv_if_ne (tgt := 114) hx hb dX6_rounded_105 (by decide) (fun c_105 => ?_) (fun c_105 => ?_)
                · rw [lc_eq ev53, ev52, xu0, wb_a1 (by omega), pk_lT (by omega), show (1 : Int64).toInt = 1 from rfl] at c_105
                  have hp := pow_half (m := t) m1
                  have xu : v42 = lN (FP.Core.nearest n (2 ^ t)) := by
                    rw [xu0]
                    congr 1
                    unfold FP.Core.nearest
                    rw [if_neg (by omega), if_neg (by omega)]
                    omega
                  have hN := near_le (m := t) hm2 m10
                  refine lv_lload hx hb dX6_rounded_114 (lv_at hl 0 rfl) ?_
                  refine lv_iload hx hb dX6_rounded_116 (lv_at hl 3 rfl) ?_
                  obtain ⟨v54, ev54⟩ : ∃ z : Int64, v42 <<< (y.toInt64 &&& 63) = z := ⟨_, rfl⟩
                  refine lv_lshl (v := v54) hx hb dX6_rounded_118 ev54 ?_
                  have xl : v54 = lN (FP.Core.nearest n (2 ^ t) * 2 ^ t) := by rw [← ev54, xu, hy]; exact wb_shl _ (by omega)
                  refine lv_lstore (lv' := [(11, .long v54), (9, .long v42), (7, .long v41), (5, .long v39), (4, .int y), (2, .long v), (0, .long v)]) hx hb dX6_rounded_119 hl (by decide) rfl (fun ls hl => ?_)
                  refine lv_lload_n hx hb dX6_rounded_121 rfl (lv_at hl 6 rfl) ?_
                  refine lv_lconst (v := 0) hx hb dX6_rounded_122 (by decide) ?_
                  refine W.lcmp hx hb dX6_rounded_123 ?_
                  refine lv_topi (fun v55 ev55 => ?_)
                  have c124 : 0 ≤ v55 := (lc_ge ev55).mpr (by
                    have e0 : (0 : Int64).toInt = 0 := rfl
                    omega)
                  refine lv_if_ge (tgt := 131) hx hb dX6_rounded_124 (by decide) (fun c_124 => ?_) (fun c_124 => absurd c124 c_124)
                  refine lv_lload hx hb dX6_rounded_131 (lv_at hl 0 rfl) ?_
                  refine lv_lconst (v := 0) hx hb dX6_rounded_133 (by decide) ?_
                  refine W.lcmp hx hb dX6_rounded_134 ?_
                  refine lv_topi (fun v56 ev56 => ?_)
                  refine lv_if_ge (tgt := 144) hx hb dX6_rounded_135 (by decide) (fun c_135 => ?_) (fun c_135 => ?_)
                  · rw [lc_ge ev56, xl, show (0 : Int64).toInt = 0 from rfl] at c_135
                    refine lv_lload hx hb dX6_rounded_144 (lv_at hl 0 rfl) ?_
                    exact e_l S9 hr hlk (by have h5 : FP.Core.nearest n (2 ^ t) * 2 ^ t < 2 ^ 63 := low_nat hN c_135; rw [hfp, decide_eq_false (show ¬ v.toInt < 0 by omega), xl]; exact rnd_pos h5) dX6_rounded_146
                  · rw [lc_ge ev56, xl, show (0 : Int64).toInt = 0 from rfl] at c_135
                    refine lv_ldc2 (v := 9223372036854775807) hx hb hown (hts (.constantLong RX6 64 (9223372036854775807)) (by decide +kernel)) dX6_rounded_138 ?_
                    refine lv_goto (tgt := 146) hx hb dX6_rounded_141 (by decide) ?_
                    exact e_l S9 hr hlk (by have h5 : FP.Core.nearest n (2 ^ t) * 2 ^ t = 2 ^ 63 := top_nat hN c_135; rw [hfp, decide_eq_false (show ¬ v.toInt < 0 by omega), h5]; decide +kernel) dX6_rounded_146
                · rw [lc_eq ev53, ev52, xu0, wb_a1 (by omega), pk_lT (by omega), show (1 : Int64).toInt = 1 from rfl] at c_105
                  refine lv_lload hx hb dX6_rounded_108 (lv_at hl 0 rfl) ?_
                  refine lv_lconst (v := 1) hx hb dX6_rounded_110 (by decide) ?_
                  refine lv_ladd hx hb dX6_rounded_111 ?_
                  refine lv_topl (fun v57 ev57 => ?_)
                  refine lv_lstore (lv' := [(9, .long v57), (7, .long v41), (5, .long v39), (4, .int y), (2, .long v), (0, .long v)]) hx hb dX6_rounded_112 hl (by decide) rfl (fun ls hl => ?_)
                  have hp := pow_half (m := t) m1
                  have xu : v57 = lN (FP.Core.nearest n (2 ^ t)) := by
                    rw [ev57, xu0, lN_1]
                    congr 1
                    unfold FP.Core.nearest
                    rw [if_neg (by omega), if_neg (by omega)]
                    omega
                  have hN := near_le (m := t) hm2 m10
                  refine lv_lload hx hb dX6_rounded_114 (lv_at hl 0 rfl) ?_
                  refine lv_iload hx hb dX6_rounded_116 (lv_at hl 3 rfl) ?_
                  obtain ⟨v58, ev58⟩ : ∃ z : Int64, v57 <<< (y.toInt64 &&& 63) = z := ⟨_, rfl⟩
                  refine lv_lshl (v := v58) hx hb dX6_rounded_118 ev58 ?_
                  have xl : v58 = lN (FP.Core.nearest n (2 ^ t) * 2 ^ t) := by rw [← ev58, xu, hy]; exact wb_shl _ (by omega)
                  refine lv_lstore (lv' := [(11, .long v58), (9, .long v57), (7, .long v41), (5, .long v39), (4, .int y), (2, .long v), (0, .long v)]) hx hb dX6_rounded_119 hl (by decide) rfl (fun ls hl => ?_)
                  refine lv_lload_n hx hb dX6_rounded_121 rfl (lv_at hl 6 rfl) ?_
                  refine lv_lconst (v := 0) hx hb dX6_rounded_122 (by decide) ?_
                  refine W.lcmp hx hb dX6_rounded_123 ?_
                  refine lv_topi (fun v59 ev59 => ?_)
                  have c124 : 0 ≤ v59 := (lc_ge ev59).mpr (by
                    have e0 : (0 : Int64).toInt = 0 := rfl
                    omega)
                  refine lv_if_ge (tgt := 131) hx hb dX6_rounded_124 (by decide) (fun c_124 => ?_) (fun c_124 => absurd c124 c_124)
                  refine lv_lload hx hb dX6_rounded_131 (lv_at hl 0 rfl) ?_
                  refine lv_lconst (v := 0) hx hb dX6_rounded_133 (by decide) ?_
                  refine W.lcmp hx hb dX6_rounded_134 ?_
                  refine lv_topi (fun v60 ev60 => ?_)
                  refine lv_if_ge (tgt := 144) hx hb dX6_rounded_135 (by decide) (fun c_135 => ?_) (fun c_135 => ?_)
                  · rw [lc_ge ev60, xl, show (0 : Int64).toInt = 0 from rfl] at c_135
                    refine lv_lload hx hb dX6_rounded_144 (lv_at hl 0 rfl) ?_
                    exact e_l S9 hr hlk (by have h5 : FP.Core.nearest n (2 ^ t) * 2 ^ t < 2 ^ 63 := low_nat hN c_135; rw [hfp, decide_eq_false (show ¬ v.toInt < 0 by omega), xl]; exact rnd_pos h5) dX6_rounded_146
                  · rw [lc_ge ev60, xl, show (0 : Int64).toInt = 0 from rfl] at c_135
                    refine lv_ldc2 (v := 9223372036854775807) hx hb hown (hts (.constantLong RX6 64 (9223372036854775807)) (by decide +kernel)) dX6_rounded_138 ?_
                    refine lv_goto (tgt := 146) hx hb dX6_rounded_141 (by decide) ?_
                    exact e_l S9 hr hlk (by have h5 : FP.Core.nearest n (2 ^ t) * 2 ^ t = 2 ^ 63 := top_nat hN c_135; rw [hfp, decide_eq_false (show ¬ v.toInt < 0 by omega), h5]; decide +kernel) dX6_rounded_146
          · obtain ⟨v61, ev61⟩ : ∃ z : Int32, z = y + 1 := ⟨_, rfl⟩
            refine lv_iinc (v := v61) (lv' := [(4, .int v61), (2, .long v), (0, .long v)]) hx hb dX6_rounded_53 hl (k := 0) rfl (by rw [ev61]; rfl) (by decide) rfl (fun ls hl => ?_)
            refine lv_goto (tgt := 42) hx hb dX6_rounded_56 (by decide) ?_
            have htm : t < m := by
              rcases Nat.lt_or_ge t m with q | q
              · exact q
              · exfalso
                have : t = m := by omega
                subst this
                refine c_50 ((lc_le ev36).mpr ?_)
                rw [xs, pk_lT (by have := Nat.div_le_self n (2 ^ t); omega)]
                have := div_m hm2
                have e1 : (9007199254740991 : Int64).toInt = 9007199254740991 := rfl
                omega
            exact ih (ls := ls) (t := t + 1) (y := v61) (ht := by omega) (hy := by rw [ev61, hy]; exact nI_1 t) (hl := lv_sub hl [0, 1, 2] rfl) (hg := by omega)
      · refine lv_lload_n hx hb dX6_rounded_24 rfl (lv_at hl 0 rfl) ?_
        exact e_l S9 hr hlk (by have h1 := (lc_eq ev33).mp c_21; have h2 : v = -9223372036854775808 := Int64.toInt_inj.mp h1; rw [h2]; decide +kernel) dX6_rounded_25
