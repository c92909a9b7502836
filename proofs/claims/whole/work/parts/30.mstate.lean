theorem wb_tb (n : Nat) : (lN n).toBitVec = BitVec.ofNat 64 n := rfl
theorem wb_inj {a b : Int64} (h : a.toBitVec = b.toBitVec) : a = b := Int64.toBitVec_inj.mp h
theorem wb_tn {n : Nat} (h : n < 2 ^ 64) : (lN n).toBitVec.toNat = n := by rw [wb_tb, BitVec.toNat_ofNat, Nat.mod_eq_of_lt h]
theorem wb_of (x : Int64) : ∃ n, n < 2 ^ 64 ∧ x = lN n := ⟨x.toBitVec.toNat, x.toBitVec.isLt, wb_inj (by rw [wb_tb]; simp)⟩
theorem wb_of32 (x : Int32) : ∃ n, n < 2 ^ 32 ∧ x = nI n := ⟨x.toBitVec.toNat, x.toBitVec.isLt, Int32.toBitVec_inj.mp (by show _ = BitVec.ofNat 32 _; simp)⟩
theorem wb_c : ∀ k, k < 64 → ((nI k).toInt64 &&& 63) = lN k := by decide +kernel
theorem wb_cu : ∀ k, k < 64 → ((nI k).toInt64.toUInt64 &&& Int64.toUInt64 63) = UInt64.ofNat k := by decide +kernel
theorem wb_sm : ∀ k, k < 64 → (BitVec.ofNat 64 k).smod 64 = BitVec.ofNat 64 k := by decide +kernel
theorem wb_pw {a b : Nat} (h : a ≤ b) : 2 ^ b = 2 ^ a * 2 ^ (b - a) := by rw [← Nat.pow_add]; congr 1; omega
theorem wb_lt2 {a b : Nat} (h : a < b) : 2 ^ a < 2 ^ b := Nat.pow_lt_pow_right (by decide) h
theorem wb_mod (n : Nat) : lN n = lN (n % 2 ^ 64) := wb_inj (by rw [wb_tb, wb_tb]; apply BitVec.eq_of_toNat_eq; rw [BitVec.toNat_ofNat, BitVec.toNat_ofNat, Nat.mod_mod])
theorem wb_shr {n k : Nat} (hn : n < 2 ^ 64) (hk : k < 64) : ((lN n).toUInt64 >>> ((nI k).toInt64.toUInt64 &&& Int64.toUInt64 63)).toInt64 = lN (n / 2 ^ k) := by
  rw [wb_cu k hk]
  apply wb_inj
  apply BitVec.eq_of_toNat_eq
  show ((lN n).toUInt64 >>> UInt64.ofNat k).toNat = (BitVec.ofNat 64 _).toNat
  have h1 : (UInt64.ofNat k).toNat = k := by
    show (BitVec.ofNat 64 k).toNat = k
    rw [BitVec.toNat_ofNat, Nat.mod_eq_of_lt (by omega)]
  have h2 : (lN n).toUInt64.toNat = n := wb_tn hn
  rw [UInt64.toNat_shiftRight, h1, h2, Nat.mod_eq_of_lt hk, Nat.shiftRight_eq_div_pow, BitVec.toNat_ofNat, Nat.mod_eq_of_lt (Nat.lt_of_le_of_lt (Nat.div_le_self _ _) hn)]
theorem wb_shl (n : Nat) {k : Nat} (hk : k < 64) : lN n <<< ((nI k).toInt64 &&& 63) = lN (n * 2 ^ k) := by
  rw [wb_c k hk]
  apply wb_inj
  rw [Int64.toBitVec_shiftLeft, wb_tb, wb_tb, wb_tb, wb_sm k hk]
  apply BitVec.eq_of_toNat_eq
  rw [BitVec.shiftLeft_eq', BitVec.toNat_shiftLeft, BitVec.toNat_ofNat, BitVec.toNat_ofNat, BitVec.toNat_ofNat, Nat.mod_eq_of_lt (show k < 2 ^ 64 by omega), Nat.shiftLeft_eq, Nat.mul_mod, Nat.mod_mod, ← Nat.mul_mod]
theorem wb_and {a b : Nat} (ha : a < 2 ^ 64) (hb : b < 2 ^ 64) : lN a &&& lN b = lN (a &&& b) := by
  apply wb_inj
  rw [Int64.toBitVec_and, wb_tb, wb_tb, wb_tb]
  apply BitVec.eq_of_toNat_eq
  rw [BitVec.toNat_and, BitVec.toNat_ofNat, BitVec.toNat_ofNat, BitVec.toNat_ofNat, Nat.mod_eq_of_lt ha, Nat.mod_eq_of_lt hb, Nat.mod_eq_of_lt (Nat.and_lt_two_pow _ hb)]
theorem wb_or {a b : Nat} (ha : a < 2 ^ 64) (hb : b < 2 ^ 64) : lN a ||| lN b = lN (a ||| b) := by
  apply wb_inj
  rw [Int64.toBitVec_or, wb_tb, wb_tb, wb_tb]
  apply BitVec.eq_of_toNat_eq
  rw [BitVec.toNat_or, BitVec.toNat_ofNat, BitVec.toNat_ofNat, BitVec.toNat_ofNat, Nat.mod_eq_of_lt ha, Nat.mod_eq_of_lt hb, Nat.mod_eq_of_lt (Nat.or_lt_two_pow ha hb)]
theorem wb_mask {n k : Nat} (hn : n < 2 ^ 64) (hk : k < 64) : lN n &&& lN (2 ^ k - 1) = lN (n % 2 ^ k) := by
  rw [wb_and hn (by have := wb_lt2 hk; omega), Nat.and_two_pow_sub_one_eq_mod]
theorem wb_a1 {n : Nat} (hn : n < 2 ^ 64) : lN n &&& 1 = lN (n % 2) := wb_mask (k := 1) hn (by decide)
/-! THE REFERENCE'S STATE -/
def hdW (k lo : Int32) : Int64 := (k.toInt64 <<< ((32 : Int32).toInt64 &&& 63)) ||| (lo.toInt64 &&& 4294967295)
theorem low_mask (lo : Int32) : lo.toInt64 &&& 4294967295 = lN lo.toBitVec.toNat := by
  have h1 := lo.toInt64.toBitVec.isLt
  have e1 : lo.toInt64 = lN lo.toInt64.toBitVec.toNat := wb_inj (by rw [wb_tb]; simp)
  have e2 := wb_mask (n := lo.toInt64.toBitVec.toNat) (k := 32) h1 (by decide)
  rw [← e1] at e2
  refine e2.trans ?_
  have e3 : lo.toInt64.toBitVec = lo.toBitVec.signExtend 64 := rfl
  rw [e3, BitVec.toNat_signExtend]
  have h2 := lo.toBitVec.isLt
  congr 1
  rw [BitVec.toNat_setWidth, Nat.mod_eq_of_lt (show lo.toBitVec.toNat < 2 ^ 64 by omega)]
  split <;> omega
theorem hd_nat {k : Nat} (hk : k ≤ 8) (lo : Int32) : hdW (nI k) lo = lN (k * 2 ^ 32 + lo.toBitVec.toNat) := by
  have h2 := lo.toBitVec.isLt
  unfold hdW
  rw [nI_l (by omega), low_mask]
  have e1 : lN k <<< ((32 : Int32).toInt64 &&& 63) = lN (k * 2 ^ 32) := wb_shl k (k := 32) (by decide)
  rw [e1, wb_or (by omega) (by omega)]
  congr 1
  rw [Nat.mul_comm]
  exact (Nat.two_pow_add_eq_or_of_lt h2 k).symm
theorem ls_shr {n : Nat} (h : n < 2 ^ 63) {k : Nat} (hk : k < 64) : lN n >>> ((nI k).toInt64 &&& 63) = lN (n / 2 ^ k) := by
  rw [wb_c k hk]
  apply Int64.toInt_inj.mp
  have h2 : n / 2 ^ k ≤ n := Nat.div_le_self _ _
  have e1 : (lN n >>> lN k).toInt = ((lN n).toBitVec.sshiftRight ((lN k).toBitVec.smod 64).toNat).toInt := rfl
  rw [e1, wb_tb k, wb_sm k hk, BitVec.toInt_sshiftRight, BitVec.toNat_ofNat, Nat.mod_eq_of_lt (show k < 2 ^ 64 by omega)]
  have e2 : (lN n).toBitVec.toInt = (lN n).toInt := rfl
  rw [e2, pk_lT h, pk_lT (by omega), Int.shiftRight_eq_div_pow]
  rfl
theorem hd_kind {k : Nat} (hk : k ≤ 8) (lo : Int32) : (hdW (nI k) lo >>> ((32 : Int32).toInt64 &&& 63)).toInt32 = nI k := by
  have h2 := lo.toBitVec.isLt
  rw [hd_nat hk]
  have e1 : lN (k * 2 ^ 32 + lo.toBitVec.toNat) >>> ((32 : Int32).toInt64 &&& 63) = lN ((k * 2 ^ 32 + lo.toBitVec.toNat) / 2 ^ 32) := ls_shr (by omega) (k := 32) (by decide)
  rw [e1, lN_i]
  congr 1
  omega
theorem hd_low {k : Nat} (hk : k ≤ 8) (lo : Int32) : (hdW (nI k) lo).toInt32 = lo := by
  have h2 := lo.toBitVec.isLt
  rw [hd_nat hk, lN_i]
  apply Int32.toBitVec_inj.mp
  show BitVec.ofNat 32 _ = _
  apply BitVec.eq_of_toNat_eq
  rw [BitVec.toNat_ofNat]
  omega
theorem hd_told {k : Nat} (hk : k ≤ 8) (lo : Int32) : hdW (nI k) lo = (nI k).toInt64 * 4294967296 + (lo.toInt64 &&& 4294967295) := by
  rw [hd_nat hk, low_mask, nI_l (by omega)]
  have e1 : lN k * 4294967296 = lN (k * 4294967296) := lN_mul k 4294967296
  rw [e1, lN_add]
def encO (r : Option Nat) : Nat := match r with
  | none => 0
  | some h => h + 1
/-- a head, or -1 -/
def hM (r : Option Nat) : Int32 := match r with
  | none => -1
  | some h => nI h
def loV (o : Ob) : Int32 := if 7 ≤ o_k o then o_v o else nI (o_n o)
def hdO (o : Ob) : Int64 := hdW (nI (o_k o)) (loV o)
def HpM (S : St) (hf : Nat → Int64) : Prop :=
  (∀ h o, s_o S h = some o → hf h = hdO o ∧ (o_k o ≤ 3 → ∀ j, j < o_n o → hf (h + 1 + j) = o_f o j) ∧ (4 ≤ o_k o → o_k o ≤ 6 → ∀ j, j < o_n o → hf (h + 1 + j) = lN (encO (o_e o j)))) ∧
  (∀ j, s_u S ≤ j → j < 60000 → hf j = 0)
abbrev oM (ha at_ li : Nat) (u : Int32) (f : Nat → Int32) : va_E := .inr (4, [.ref ha, .int u, .ref at_, .ref li, .int (f 0), .int (f 2), .int (f 4), .int (f 3), .int (f 5), .int (f 6)])
def RpM (G : Gt) (x ha at_ li : Nat) (S : St) (ws : va_W) : Prop := ∃ (hf : Nat → Int64) (af : Nat → Int32),
  hp ws x (oM ha at_ li (nI (s_u S)) (s_c S)) ∧ hp ws ha (aJ G 60000 hf) ∧ hp ws at_ (aI G 400 af) ∧ hp ws li (aI G 320 (s_l S)) ∧ (∀ i, i < 400 → af i = nI (encO (s_s S i))) ∧ HpM S hf
theorem hM_enc (r : Option Nat) : nI (encO r) - 1 = hM r := by
  cases r with
  | none => rfl
  | some h => exact nI_pred h
