/-! WHAT A STATE IS. An object (kind, length, value, numbers, elements), by its number (the place of its head in the reference's row); a state: how much is used, the objects, the shelf, the list, the small numbers (0 planned, 1 stock, 2 why, 3 moved, 4 ended, 5 done, 6 refused) -/
abbrev Ob : Type := Nat × Nat × Int32 × (Nat → Int64) × (Nat → Option Nat)
def o_k (o : Ob) : Nat := o.1
def o_n (o : Ob) : Nat := o.2.1
def o_v (o : Ob) : Int32 := o.2.2.1
def o_f (o : Ob) : Nat → Int64 := o.2.2.2.1
def o_e (o : Ob) : Nat → Option Nat := o.2.2.2.2
abbrev St : Type := Nat × (Nat → Option Ob) × (Nat → Option Nat) × (Nat → Int32) × (Nat → Int32)
def s_u (S : St) : Nat := S.1
def s_o (S : St) : Nat → Option Ob := S.2.1
def s_s (S : St) : Nat → Option Nat := S.2.2.1
def s_l (S : St) : Nat → Int32 := S.2.2.2.1
def s_c (S : St) : Nat → Int32 := S.2.2.2.2
/-- which kinds fit a row of kind k -/
def fitK (k k' : Nat) : Prop := if k = 4 then k' = 0 else if k = 5 then k' = 7 ∨ k' = 8 else k' = 8
/-- the digest of a row of numbers: of its first i -/
def dgF (k : Nat) (f : Nat → Int64) : Nat → Int64
  | 0 => (nI k + 1).toInt64
  | i + 1 => 31 * dgF k f i + f i
def dgN (o : Ob) : Int64 := dgF (o_k o) (o_f o) (o_n o)
def Inv (S : St) : Prop :=
  s_u S ≤ 60000 ∧ s_c S 1 = nI (60000 - s_u S) ∧ (∃ k : Nat, k ≤ 64 ∧ s_c S 0 = nI k) ∧
  (∀ h o, s_o S h = some o → o_k o ≤ 8 ∧ o_n o ≤ 2000 ∧ h + 1 + o_n o ≤ s_u S) ∧
  (∀ h h' o o', s_o S h = some o → s_o S h' = some o' → h < h' → h + 1 + o_n o ≤ h') ∧
  (∀ i h, s_s S i = some h → ∃ o, s_o S h = some o) ∧
  (∀ h o, s_o S h = some o → 4 ≤ o_k o → o_k o ≤ 6 → ∀ i h', o_e o i = some h' → ∃ o', s_o S h' = some o' ∧ fitK (o_k o) (o_k o'))
/-! the class's cells -/
def o_cl (k : Nat) : Nat := if k ≤ 3 then 0 else if k ≤ 6 then 1 else 2
def o_fs (o : Ob) (ar : Nat) (dk : Int32) (kd : Int64) : List Value :=
  if o_k o ≤ 3 then [.int (nI (o_n o)), .int (nI (o_k o)), .ref ar, .int dk, .long kd] else if o_k o ≤ 6 then [.int (nI (o_n o)), .int (nI (o_k o)), .ref ar] else [.int (nI (o_k o)), .int (o_v o)]
theorem o_cl3 (k : Nat) : o_cl k < 3 := by
  unfold o_cl
  split
  · omega
  · split <;> omega
abbrev oX (sh li : Nat) (f : Nat → Int32) : va_E := .inr (3, [.ref sh, .ref li, .int (f 0), .int (f 1), .int (f 2), .int (f 3), .int (f 4), .int (f 5), .int (f 6)])
def ObX (G : Gt) (ad ar : Nat → Nat) (ws : va_W) (h : Nat) (o : Ob) : Prop := ∃ (dk : Int32) (kd : Int64), hp ws (ad h) (.inr (o_cl (o_k o), o_fs o (ar h) dk kd)) ∧ (dk = 0 ∨ dk = 1 ∧ kd = dgN o) ∧ (o_k o ≤ 3 → hp ws (ar h) (aJ G (o_n o) (o_f o))) ∧ (4 ≤ o_k o → o_k o ≤ 6 → hp ws (ar h) (aT G (o_n o) (fun i => (o_e o i).map ad)))
def RpX (G : Gt) (x sh li : Nat) (ad ar : Nat → Nat) (S : St) (ws : va_W) : Prop :=
  hp ws x (oX sh li (s_c S)) ∧ hp ws sh (aT G 400 (fun i => (s_s S i).map ad)) ∧ hp ws li (aI G 320 (s_l S)) ∧
  (∀ h o, s_o S h = some o → ObX G ad ar ws h o) ∧
  (∀ h h' o o', s_o S h = some o → s_o S h' = some o' → h ≠ h' → ad h ≠ ad h' ∧ (o_k o ≤ 6 → o_k o' ≤ 6 → ar h ≠ ar h')) ∧
  (∀ h o, s_o S h = some o → o_k o ≤ 6 → ar h ≠ sh)
/-! the cell of an object of a known kind -/
theorem o_num {o : Ob} (h : o_k o ≤ 3) (ar : Nat) (dk : Int32) (kd : Int64) : (Sum.inr (o_cl (o_k o), o_fs o ar dk kd) : va_E) = .inr (0, [.int (nI (o_n o)), .int (nI (o_k o)), .ref ar, .int dk, .long kd]) := by
  simp [o_cl, o_fs, h]
theorem o_obj {o : Ob} (h : 4 ≤ o_k o) (h' : o_k o ≤ 6) (ar : Nat) (dk : Int32) (kd : Int64) : (Sum.inr (o_cl (o_k o), o_fs o ar dk kd) : va_E) = .inr (1, [.int (nI (o_n o)), .int (nI (o_k o)), .ref ar]) := by
  have h3 : ¬ o_k o ≤ 3 := by omega
  simp [o_cl, o_fs, h3, h']
theorem o_thg {o : Ob} (h : 7 ≤ o_k o) (ar : Nat) (dk : Int32) (kd : Int64) : (Sum.inr (o_cl (o_k o), o_fs o ar dk kd) : va_E) = .inr (2, [.int (nI (o_k o)), .int (o_v o)]) := by
  have h3 : ¬ o_k o ≤ 3 := by omega
  have h6 : ¬ o_k o ≤ 6 := by omega
  simp [o_cl, o_fs, h3, h6]
theorem hu.keep {ws ws' : va_W} {a b : Nat} {e e0 : va_E} (h : hu ws a e ws') (hb : b ≠ a) (h0 : hp ws b e0) : hp ws' b e0 := (h.2 b e0 hb).mpr h0
/-- what an object's cells need to stay -/
theorem ObX.keep {G : Gt} {ad ar : Nat → Nat} {ws ws' : va_W} {h : Nat} {o : Ob} {a : Nat} {e : va_E} (hO : ObX G ad ar ws h o) (hW : hu ws a e ws') (h1 : ad h ≠ a) (h2 : o_k o ≤ 6 → ar h ≠ a) : ObX G ad ar ws' h o := by
  obtain ⟨dk, kd, q1, q2, q3, q4⟩ := hO
  exact ⟨dk, kd, hW.keep h1 q1, q2, fun z => hW.keep (h2 (by omega)) (q3 z), fun z z' => hW.keep (h2 z') (q4 z z')⟩
theorem ObX.ne_x {G : Gt} {ad ar : Nat → Nat} {A : Nat → Prop} {ws : va_W} {h : Nat} {o : Ob} {x ci : Nat} {fs : List Value} (hD : va_D A ws) (hO : ObX G ad ar ws h o) (hx : hp ws x (.inr (ci, fs))) (hc : 3 ≤ ci) : ad h ≠ x ∧ (o_k o ≤ 6 → ar h ≠ x) := by
  obtain ⟨dk, kd, q1, q2, q3, q4⟩ := hO
  refine ⟨hp_ne_of hD q1 hx (fun q => ?_), fun z => ?_⟩
  · have := o_cl3 (o_k o)
    cases q
    omega
  · by_cases h3 : o_k o ≤ 3
    · exact hp_ne_of hD (q3 h3) hx (fun q => by cases q)
    · exact hp_ne_of hD (q4 (by omega) z) hx (fun q => by cases q)
theorem ObX.ne_i {G : Gt} {ad ar : Nat → Nat} {A : Nat → Prop} {ws : va_W} {h : Nat} {o : Ob} {x n : Nat} {f : Nat → Int32} (hD : va_D A ws) (hO : ObX G ad ar ws h o) (hx : hp ws x (aI G n f)) : ad h ≠ x ∧ (o_k o ≤ 6 → ar h ≠ x) := by
  obtain ⟨dk, kd, q1, q2, q3, q4⟩ := hO
  refine ⟨hp_ne_of hD q1 hx (fun q => by cases q), fun z => ?_⟩
  by_cases h3 : o_k o ≤ 3
  · exact hp_ne_of hD (q3 h3) hx (fun q => by simp at q)
  · exact hp_ne_of hD (q4 (by omega) z) hx (fun q => by simp at q)
/-- the small numbers change -/
theorem RpX.sc {G : Gt} {x sh li : Nat} {ad ar : Nat → Nat} {S : St} {A : Nat → Prop} {ws ws' : va_W} {f : Nat → Int32} {E : va_E} (hD : va_D A ws) (h : RpX G x sh li ad ar S ws) (hW : hu ws x E ws') (hE : E = oX sh li f) : RpX G x sh li ad ar (s_u S, s_o S, s_s S, s_l S, f) ws' := by
  subst hE
  obtain ⟨h1, h2, h3, h4, h5, h6⟩ := h
  refine ⟨hW.1, hW.keep (hp_ne_of hD h2 h1 (fun q => by cases q)) h2, hW.keep (hp_ne_of hD h3 h1 (fun q => by cases q)) h3, fun a o ho => ?_, h5, h6⟩
  have hn := (h4 a o ho).ne_x hD h1 (Nat.le_refl 3)
  exact (h4 a o ho).keep hW hn.1 hn.2
/-- the shelf changes -/
theorem RpX.sf {G : Gt} {x sh li : Nat} {ad ar : Nat → Nat} {S : St} {A : Nat → Prop} {ws ws' : va_W} {f : Nat → Option Nat} {E : va_E} (hD : va_D A ws) (h : RpX G x sh li ad ar S ws) (hW : hu ws sh E ws') (hE : E = aT G 400 (fun i => (f i).map ad)) : RpX G x sh li ad ar (s_u S, s_o S, f, s_l S, s_c S) ws' := by
  subst hE
  obtain ⟨h1, h2, h3, h4, h5, h6⟩ := h
  refine ⟨hW.keep (hp_ne_of hD h1 h2 (fun q => by cases q)) h1, hW.1, hW.keep (hp_ne_of hD h3 h2 (fun q => by simp at q)) h3, fun a o ho => ?_, h5, h6⟩
  refine (h4 a o ho).keep hW ?_ (h6 a o ho)
  obtain ⟨dk, kd, q1, -⟩ := h4 a o ho
  exact hp_ne_of hD q1 h2 (fun q => by cases q)
/-- the list changes -/
theorem RpX.lf {G : Gt} {x sh li : Nat} {ad ar : Nat → Nat} {S : St} {A : Nat → Prop} {ws ws' : va_W} {f : Nat → Int32} {E : va_E} (hD : va_D A ws) (h : RpX G x sh li ad ar S ws) (hW : hu ws li E ws') (hE : E = aI G 320 f) : RpX G x sh li ad ar (s_u S, s_o S, s_s S, f, s_c S) ws' := by
  subst hE
  obtain ⟨h1, h2, h3, h4, h5, h6⟩ := h
  refine ⟨hW.keep (hp_ne_of hD h1 h3 (fun q => by cases q)) h1, hW.keep (hp_ne_of hD h2 h3 (fun q => by simp at q)) h2, hW.1, fun a o ho => ?_, h5, h6⟩
  have hn := (h4 a o ho).ne_i hD h3
  exact (h4 a o ho).keep hW hn.1 hn.2
/-- the small numbers' fields -/
theorem oX_set (sh li : Nat) (f : Nat → Int32) (k : Nat) (hk : k < 7) (v : Int32) : (Sum.inr (3, ([.ref sh, .ref li, .int (f 0), .int (f 1), .int (f 2), .int (f 3), .int (f 4), .int (f 5), .int (f 6)] : List Value).set (k + 2) (.int v)) : va_E) = oX sh li (upd f k v) := by
  match k, hk with
  | 0, _ => rfl
  | 1, _ => rfl
  | 2, _ => rfl
  | 3, _ => rfl
  | 4, _ => rfl
  | 5, _ => rfl
  | 6, _ => rfl
