section LIBD
variable {p : Program} {l : Launch} {e : Env} {R : Room} {s : State} {m : MethodId} {args : Array Value} {below : List Frame} {meth : Method} {c : Code} {H : Heap} {locs : List Loc} {cells slots : Nat} {Q : State → Prop}
variable {cc : ByteArray} {nL pc : Nat} {ls : Array Slot} {rest st0 : List Value} {Ts : List Cond} {own : String} {G : Gt} {A : Nat → Prop} {ws : va_W}
/-- System.arraycopy of longs -/
theorem r_cpyJ (S : CallFix p m c cc nL s args Ts own) (w : Wd G A s ws H locs) (hl : ls.size = nL) {index : Nat} (hw : Cond.methodLink own index arraycopyName ∈ Ts ∧ Cond.native arraycopyName ∈ Ts ∧ Cond.static arraycopyName ∈ Ts ∧ Cond.initialized "java/lang/System" ∈ Ts) {a a0 n0 n1 : Nat} {f g : Nat → Int64} (ha0 : hp ws a0 (aJ G n0 f)) (ha1 : hp ws a (aJ G n1 g)) {sp dp n : Int32} (h1 : ¬ sp < 0) (h2 : ¬ dp < 0) (h3 : ¬ n < 0) (h4 : sp.toNatClampNeg + n.toNatClampNeg ≤ n0) (h5 : dp.toNatClampNeg + n.toNatClampNeg ≤ n1) (hframes : 1 ≤ R.frames) (hlocals : (rest.map fun v => v.category).sum + (nativeFrameWords "java/lang/System" "arraycopy" 5 + 11) ≤ R.locals) (hdg : decode cc pc = .ok (.invokestatic index, 3))
    (kk : ∀ (ws' : va_W) (H1 : Heap) (locs1 : List Loc), hu ws a (aJ G n1 (va_cpy f g sp.toNatClampNeg dp.toNatClampNeg n.toNatClampNeg)) ws' → Wd G A s ws' H1 locs1 → W p l e R s m args below meth c H1 locs1 cells slots Q (F0 m (pc + 3) ls rest)) : W p l e R s m args below meth c H locs cells slots Q (F0 m pc ls (.int n :: .int dp :: .ref a :: .int sp :: .ref a0 :: rest)) := by
  obtain ⟨hx, hb, hml, hown, hts⟩ := S
  obtain ⟨q0, hq0⟩ := ha0
  obtain ⟨q1, hq1⟩ := ha1
  obtain ⟨hP, hD, hS, hK, hA, hT⟩ := w
  exact va_copyl hx hb (hml.trans hl.symm) hown (hts _ hw.1) (hts _ hw.2.1) (hts _ hw.2.2.1) (hts _ hw.2.2.2) hK hP hD hS q0 q1 1 1 hq0 hq1 rfl rfl rfl h1 h2 h3 h4 h5 (fun _ _ => rfl) hframes hlocals hdg (fun H1 locs1 hP1 hD1 hS1 => kk _ H1 locs1 (hu_set hq1) ⟨hP1, hD1, hS1, hK, hA, hT⟩)
/-- System.arraycopy of Items -/
theorem r_cpyT (S : CallFix p m c cc nL s args Ts own) (w : Wd G A s ws H locs) (hl : ls.size = nL) {index : Nat} (hw : Cond.methodLink own index arraycopyName ∈ Ts ∧ Cond.native arraycopyName ∈ Ts ∧ Cond.static arraycopyName ∈ Ts ∧ Cond.initialized "java/lang/System" ∈ Ts) {a a0 n0 n1 : Nat} {f g : Nat → Option Nat} (ha0 : hp ws a0 (aT G n0 f)) (ha1 : hp ws a (aT G n1 g)) {sp dp n : Int32} (h1 : ¬ sp < 0) (h2 : ¬ dp < 0) (h3 : ¬ n < 0) (h4 : sp.toNatClampNeg + n.toNatClampNeg ≤ n0) (h5 : dp.toNatClampNeg + n.toNatClampNeg ≤ n1) (hel : ∀ i y : Nat, f i = some y → va_Any "SpanMover$Item" s H y) (hframes : 1 ≤ R.frames) (hlocals : (rest.map fun v => v.category).sum + (nativeFrameWords "java/lang/System" "arraycopy" 5 + 11) ≤ R.locals) (hdg : decode cc pc = .ok (.invokestatic index, 3))
    (kk : ∀ (ws' : va_W) (H1 : Heap) (locs1 : List Loc), hu ws a (aT G n1 (va_cpy f g sp.toNatClampNeg dp.toNatClampNeg n.toNatClampNeg)) ws' → Wd G A s ws' H1 locs1 → W p l e R s m args below meth c H1 locs1 cells slots Q (F0 m (pc + 3) ls rest)) : W p l e R s m args below meth c H locs cells slots Q (F0 m pc ls (.int n :: .int dp :: .ref a :: .int sp :: .ref a0 :: rest)) := by
  obtain ⟨hx, hb, hml, hown, hts⟩ := S
  obtain ⟨q0, hq0⟩ := ha0
  obtain ⟨q1, hq1⟩ := ha1
  obtain ⟨hP, hD, hS, hK, hA, hT⟩ := w
  exact va_copyM hx hb (hml.trans hl.symm) hown (hts _ hw.1) (hts _ hw.2.1) (hts _ hw.2.2.1) (hts _ hw.2.2.2) hK hP hD hS q0 q1 2 2 hq0 hq1 rfl rfl h1 h2 h3 h4 h5 (fun i _ y hy => hel _ y hy) hframes hlocals hdg (fun H1 locs1 hP1 hD1 hS1 => kk _ H1 locs1 (hu_set hq1) ⟨hP1, hD1, hS1, hK, hA, hT⟩)
end LIBD
theorem hu_again {ws ws1 ws2 : va_W} {a : Nat} {e1 e2 : va_E} (h1 : hu ws a e1 ws1) (h2 : hu ws1 a e2 ws2) : hu ws a e2 ws2 := ⟨h2.1, fun b e0 hb => (h2.2 b e0 hb).trans (h1.2 b e0 hb)⟩
theorem hu_rfl {ws : va_W} {a : Nat} {e : va_E} (h : hp ws a e) : hu ws a e ws := ⟨h, fun _ _ _ => Iff.rfl⟩
theorem low_hit {f : Nat → Option Nat} {k n : Nat} (hk : k < n) (h : f k = none) : low0 f (n - k) k = some k := by
  obtain ⟨m, hm⟩ : ∃ m, n - k = m + 1 := ⟨n - k - 1, by omega⟩
  rw [hm]
  simp [low0, h]
theorem low_miss {f : Nat → Option Nat} {k n y : Nat} (hk : k < n) (h : f k = some y) : low0 f (n - k) k = low0 f (n - (k + 1)) (k + 1) := by
  obtain ⟨m, hm⟩ : ∃ m, n - k = m + 1 := ⟨n - k - 1, by omega⟩
  have hm' : n - (k + 1) = m := by omega
  rw [hm, hm']
  simp [low0, h]
theorem ge_nI {v : Int32} {k n : Nat} (hv : v = nI k) (hk : k ≤ n) (hn : n < 2 ^ 31) (h : nI n ≤ v) : k = n := by
  rw [hv, nI_leI hn (by omega)] at h
  omega
theorem nge_nI {v : Int32} {k n : Nat} (hv : v = nI k) (hk : k ≤ n) (hn : n < 2 ^ 31) (h : ¬ nI n ≤ v) : k < n := by
  rw [hv, nI_leI hn (by omega)] at h
  omega
theorem in_nI {v : Int32} {k n : Nat} (hv : v = nI k) (hk : k ≤ n) (hn : n < 2 ^ 31) (h : ¬ nI n ≤ v) : vp_in v n := by
  rw [hv]
  exact vp_in_nI (nge_nI hv hk hn h) hn
theorem cl_nI {v : Int32} {k : Nat} (hv : v = nI k) (hk : k < 2 ^ 31) : v.toNatClampNeg = k := by
  rw [hv]
  exact nI_clamp hk
