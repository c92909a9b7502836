theorem ref1_row {o : Ob} {i lo hi : Int32} (hk : o_k o ≤ 6) : ref1 (some o) i lo hi = if nI (o_k o) < lo then 3 else if nI (o_k o) ≤ hi then (if inE (o_n o) i then 0 else 4) else 3 := by
  have h7 : ¬ 7 ≤ o_k o := by omega
  simp [ref1, h7]
theorem ref1_thg {o : Ob} {i lo hi : Int32} (hk : 7 ≤ o_k o) : ref1 (some o) i lo hi = 2 := by
  simp [ref1, hk]
theorem ref1_zero {o : Ob} {i : Int32} {a b : Nat} (h : ref1 (some o) i (nI a) (nI b) = 0) (ha : a ≤ 8) (hb : b ≤ 8) (hk : o_k o ≤ 8) : a ≤ o_k o ∧ o_k o ≤ b ∧ inE (o_n o) i ∧ o_k o ≤ 6 := by
  by_cases h7 : 7 ≤ o_k o
  · rw [ref1_thg h7] at h
    exact absurd h (by decide)
  · rw [ref1_row (by omega)] at h
    by_cases h1 : nI (o_k o) < nI a
    · simp [h1] at h
    · by_cases h2 : nI (o_k o) ≤ nI b
      · by_cases h3 : inE (o_n o) i
        · rw [nI_ltI (by omega) (by omega)] at h1
          rw [nI_leI (by omega) (by omega)] at h2
          exact ⟨by omega, by omega, h3, by omega⟩
        · simp [h1, h2, h3] at h
      · simp [h1, h2] at h
theorem Inv.ob {S : St} (hI : Inv S) {h : Nat} {o : Ob} (ho : s_o S h = some o) : o_k o ≤ 8 ∧ o_n o ≤ 2000 := ⟨(hI.2.2.2.1 h o ho).1, (hI.2.2.2.1 h o ho).2.1⟩
theorem upd_upd {f : Nat → Int32} {k : Nat} {v w : Int32} : upd (upd f k v) k w = upd f k w := by
  funext j
  by_cases h : j = k
  · subst h; rw [pk_us, pk_us]
  · rw [pk_un h, pk_un h, pk_un h]
