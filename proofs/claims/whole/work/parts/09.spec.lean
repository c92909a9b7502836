/-! small numbers -/
theorem ii_lt {a b : Int32} : a < b ↔ a.toInt < b.toInt := Int32.lt_iff_toInt_lt
theorem ii_le {a b : Int32} : a ≤ b ↔ a.toInt ≤ b.toInt := Int32.le_iff_toInt_le
theorem in_of {i : Int32} {n : Nat} (h0 : ¬ i < 0) (h : ¬ nI n ≤ i) (hn : n < 2 ^ 31) : vp_in i n := by
  rw [vp_in_iff]
  rw [ii_lt] at h0
  rw [ii_le, nI_toInt hn] at h
  have e0 : (0 : Int32).toInt = 0 := rfl
  omega
abbrev inE (n : Nat) (i : Int32) : Prop := ¬ i < 0 ∧ ¬ nI n ≤ i
theorem inE_in {n : Nat} {i : Int32} (h : inE n i) (hn : n < 2 ^ 31) : vp_in i n := in_of h.1 h.2 hn
abbrev inS (n : Nat) (i k : Int32) : Prop := ¬ i < 0 ∧ ¬ k < 0 ∧ i.toInt + k.toInt ≤ n
/-! WHAT THE METHODS ANSWER -/
def itm (S : St) (i : Int32) : Option Nat := if i < 0 then none else if 400 ≤ i then none else s_s S i.toNatClampNeg
/-- the lowest empty place from k on, of n -/
def low0 (f : Nat → Option Nat) : Nat → Nat → Option Nat
  | 0, _ => none
  | n + 1, k => match f k with
    | none => some k
    | some _ => low0 f n (k + 1)
def lowE (S : St) : Option Nat := low0 (s_s S) 400 0
def pI (r : Option Nat) : Int32 := match r with
  | none => -1
  | some k => nI k
/-- how many of the first n are taken -/
def tkn (f : Nat → Option Nat) : Nat → Nat
  | 0 => 0
  | n + 1 => tkn f n + (match f n with
    | none => 0
    | some _ => 1)
def obj (S : St) (r : Option Nat) : Option Ob := r.bind (s_o S)
/-- what get tells of an object -/
def told (q : Option Ob) : Int64 := match q with
  | none => -1
  | some o => if 7 ≤ o_k o then (nI (o_k o)).toInt64 * 4294967296 + ((o_v o).toInt64 &&& 4294967295) else (nI (o_n o)).toInt64
/-- reasons 1 to 4 -/
def ref1 (q : Option Ob) (i lo hi : Int32) : Int32 := match q with
  | none => 1
  | some o => if 7 ≤ o_k o then 2 else if nI (o_k o) < lo then 3 else if nI (o_k o) ≤ hi then (if inE (o_n o) i then 0 else 4) else 3
def fit1 (k : Nat) (q : Option Ob) : Prop := match q with
  | none => True
  | some o => fitK k (o_k o)
def isR (q : Option Ob) : Prop := ∃ o, q = some o ∧ o_k o ≤ 6
/-- reasons 1 to 3 of a move -/
def ref3 (q q' : Option Ob) : Int32 := match q, q' with
  | some o, some o' => if 7 ≤ o_k o then 2 else if 7 ≤ o_k o' then 2 else if (4 ≤ o_k o ∧ 4 ≤ o_k o') ∨ o_k o = o_k o' then 0 else 3
  | _, _ => 1
/-- what a row of numbers keeps of a long -/
def narK (k : Nat) (v : Int64) : Int64 := if k = 0 then v.toInt32.toInt64 else if k = 2 then (v.toInt32.toInt8.toInt32).toInt64 else if k = 3 then FP.d2l (FP.l2d v) else v
theorem ll_add {i j : Int32} : (i.toInt64 + j.toInt64).toInt = i.toInt + j.toInt := by
  have h1 := Int32.toInt_lt i
  have h2 := Int32.le_toInt i
  have h3 := Int32.toInt_lt j
  have h4 := Int32.le_toInt j
  rw [Int64.toInt_add, Int32.toInt_toInt64, Int32.toInt_toInt64, Int.bmod_def]
  split <;> omega
theorem span_cmp {n : Nat} (hn : n < 2 ^ 31) {i j v : Int32} {a b d e : Int64} (e1 : Int32.toInt64 i = a) (e2 : Int32.toInt64 j = b) (e3 : d = a + b) (e4 : Int32.toInt64 (nI n) = e) (e5 : v = lg_cmp d e) : 0 < v ↔ ¬ i.toInt + j.toInt ≤ n := by
  subst e1; subst e2; subst e3; subst e4; subst e5
  rw [lg_cmp_gt, Int64.lt_iff_toInt_lt, ll_add, Int32.toInt_toInt64, nI_toInt hn]
  omega
theorem sw5 (i : Int32) : i = 0 ∨ i = 1 ∨ i = 2 ∨ i = 3 ∨ i = 4 ∨ (i.toInt < 0 ∨ 4 < i.toInt) := by
  have e0 : (0 : Int32).toInt = 0 := rfl
  have e1 : (1 : Int32).toInt = 1 := rfl
  have e2 : (2 : Int32).toInt = 2 := rfl
  have e3 : (3 : Int32).toInt = 3 := rfl
  have e4 : (4 : Int32).toInt = 4 := rfl
  rw [← Int32.toInt_inj, ← Int32.toInt_inj, ← Int32.toInt_inj, ← Int32.toInt_inj, ← Int32.toInt_inj, e0, e1, e2, e3, e4]
  omega
theorem nI_inj {a b : Nat} (ha : a < 2 ^ 31) (hb : b < 2 ^ 31) (h : nI a = nI b) : a = b := (nI_eq ha hb).mp h
theorem nI_lit {k j : Nat} (hk : k < 2 ^ 31) (hj : j < 2 ^ 31) : (nI k = nI j) = (k = j) := propext (nI_eq hk hj)
theorem nIe0 {k : Nat} (hk : k ≤ 8) : (nI k = 0) = (k = 0) := nI_lit (j := 0) (by omega) (by decide)
theorem nIe4 {k : Nat} (hk : k ≤ 8) : (nI k = 4) = (k = 4) := nI_lit (j := 4) (by omega) (by decide)
theorem nIe5 {k : Nat} (hk : k ≤ 8) : (nI k = 5) = (k = 5) := nI_lit (j := 5) (by omega) (by decide)
theorem nIe7 {k : Nat} (hk : k ≤ 8) : (nI k = 7) = (k = 7) := nI_lit (j := 7) (by omega) (by decide)
theorem nIe8 {k : Nat} (hk : k ≤ 8) : (nI k = 8) = (k = 8) := nI_lit (j := 8) (by omega) (by decide)
