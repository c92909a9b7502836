/-! A world as a finite map: hp: the cell at an address; hu: one cell is new or changed, the others stay -/
def hp (ws : va_W) (a : Nat) (e : va_E) : Prop := ∃ k : Nat, ws[k]? = some (a, e)
def hu (ws : va_W) (a : Nat) (e : va_E) (ws' : va_W) : Prop := hp ws' a e ∧ ∀ (b : Nat) (e0 : va_E), b ≠ a → (hp ws' b e0 ↔ hp ws b e0)
theorem hp_fun {A : Nat → Prop} {ws : va_W} {a : Nat} {e e' : va_E} (hD : va_D A ws) (h : hp ws a e) (h' : hp ws a e') : e = e' := by
  obtain ⟨k, hk⟩ := h
  obtain ⟨k', hk'⟩ := h'
  have hkk := hD.1 k k' _ _ hk hk' rfl
  subst hkk
  rw [hk] at hk'
  cases hk'
  rfl
theorem hu_set {ws : va_W} {a k : Nat} {e0 e : va_E} (hk : ws[k]? = some (a, e0)) : hu ws a e (ws.set k (a, e)) := by
  have hl := (List.getElem?_eq_some_iff.mp hk).1
  refine ⟨⟨k, by rw [List.getElem?_set_self hl]⟩, fun b e1 hb => ⟨fun ⟨j, hj⟩ => ⟨j, ?_⟩, fun ⟨j, hj⟩ => ⟨j, ?_⟩⟩⟩
  · by_cases hjk : j = k
    · subst hjk
      rw [List.getElem?_set_self hl] at hj
      cases hj
      exact absurd rfl hb
    · rw [List.getElem?_set_ne (Ne.symm hjk)] at hj
      exact hj
  · by_cases hjk : j = k
    · subst hjk
      rw [hk] at hj
      cases hj
      exact absurd rfl hb
    · rw [List.getElem?_set_ne (Ne.symm hjk)]
      exact hj
theorem hu_push {ws : va_W} {a : Nat} {e : va_E} : hu ws a e (ws ++ [(a, e)]) := by
  refine ⟨⟨ws.length, by rw [List.getElem?_append_right (Nat.le_refl _), Nat.sub_self]; rfl⟩, fun b e1 hb => ⟨fun ⟨j, hj⟩ => ?_, fun ⟨j, hj⟩ => ⟨j, ?_⟩⟩⟩
  · by_cases hl : j < ws.length
    · rw [List.getElem?_append_left hl] at hj
      exact ⟨j, hj⟩
    · rw [List.getElem?_append_right (by omega)] at hj
      have h1 : j - ws.length < 1 := (List.getElem?_eq_some_iff.mp hj).1
      have h2 : j - ws.length = 0 := by omega
      rw [h2] at hj
      cases hj
      exact absurd rfl hb
  · have hl := (List.getElem?_eq_some_iff.mp hj).1
    rw [List.getElem?_append_left hl]
    exact hj
theorem hp_ne_of {A : Nat → Prop} {ws : va_W} {a b : Nat} {e e' : va_E} (hD : va_D A ws) (h : hp ws a e) (h' : hp ws b e') (hne : e ≠ e') : a ≠ b := fun q => by
  subst q
  exact hne (hp_fun hD h h')
/-! the class ids of arrays beside the tables of classes -/
abbrev Gt : Type := va_G × ClassId × ClassId × ClassId
def TYs (G : Gt) : List (ClassId × FieldType) := [(G.2.1, .int), (G.2.2.1, .long), (G.2.2.2, .object "SpanMover$Item")]
abbrev aI (G : Gt) (n : Nat) (f : Nat → Int32) : va_E := .inl (G.2.1, n, .inl f)
abbrev aJ (G : Gt) (n : Nat) (f : Nat → Int64) : va_E := .inl (G.2.2.1, n, .inr (.inl f))
abbrev aT (G : Gt) (n : Nat) (f : Nat → Option Nat) : va_E := .inl (G.2.2.2, n, .inr (.inr (.inr (.inr f))))
/-! what the tables say of the classes' kinship -/
def t_nm : Nat → String
  | 0 => RX1
  | 1 => RX2
  | _ => RX4
def t_tg : Nat → String
  | 0 => "SpanMover$NumberRow"
  | 1 => "SpanMover$ObjectRow"
  | 2 => "SpanMover$Thing"
  | 3 => "SpanMover$Row"
  | _ => "SpanMover$Item"
def t_is : Nat → Nat → Bool
  | 0, 0 => true
  | 1, 1 => true
  | 2, 2 => true
  | 0, 3 => true
  | 1, 3 => true
  | _, 4 => true
  | _, _ => false
def Tb (U : State) : Prop := (∀ i j : Nat, i < 3 → j < 5 → t_is i j = true → va_Nw (.castable (t_nm i) (t_tg j)) U) ∧ (∀ i j : Nat, i < 3 → j < 5 → t_is i j = false → va_Nc (t_nm i) (t_tg j) U) ∧ va_AO "SpanMover$Item" U ∧ va_Nw (.methodLinkNest RX2 44 yX5_toldAs "SpanMover") U
theorem Tb.warm {s U : State} (hW : s.WarmedH U.vm) (h : Tb s) : Tb U := by
  obtain ⟨h1, h2, h3, h4⟩ := h
  exact ⟨fun i j hi hj hij => va_Nw.warmC hW (h1 i j hi hj hij), fun i j hi hj hij => (h2 i j hi hj hij).moved hW.alike, h3.moved hW.alike, va_Nw.warmM hW h4⟩
theorem Tb.same {s U : State} (e : s.vm = U.vm) (h : Tb s) : Tb U := by
  obtain ⟨h1, h2, h3, h4⟩ := h
  exact ⟨fun i j hi hj hij => va_Nw.same rfl e (h1 i j hi hj hij), fun i j hi hj hij => by
    obtain ⟨c, t, q1, q2, q3⟩ := h2 i j hi hj hij
    exact ⟨c, t, by rw [← e]; exact q1, by rw [← e]; exact q2, by rw [← e]; exact q3⟩, h3.moved (by rw [e]; exact Vm.Alike.refl _), va_Nw.same rfl e h4⟩
/-- the world in a method's walk -/
def Wd (G : Gt) (A : Nat → Prop) (s : State) (ws : va_W) (H : Heap) (locs : List Loc) : Prop :=
  va_P G.1 vwCl ws H ∧ va_D A ws ∧ va_S A s.heap H locs ∧ va_K G.1 vwCl (TYs G) s ∧ (∀ q, s.heap.size ≤ q → A q) ∧ Tb s
/-- a method's start, over the world ws -/
def Pw (G : Gt) (av : List Value) (ws : va_W) (sz : Nat) : Array Value → State → Prop := va_Pc av (fun U => U.heap.size = sz ∧ va_P G.1 vwCl ws U.heap ∧ va_K G.1 vwCl (TYs G) U ∧ va_D (fun _ => True) ws ∧ Tb U)
/-- the world behind a method that writes -/
def Bw (G : Gt) (ws : va_W) (sz : Nat) (u : va_W) (t : State) : Prop := va_P G.1 vwCl u t.heap ∧ va_D (va_A ws sz) u
theorem Pw.blind {G : Gt} {av : List Value} {ws : va_W} {sz : Nat} : FrameBlind (Pw G av ws sz) := fun a U g mk q => by
  obtain ⟨q0, q1, qP, qK, qD, qT⟩ := q
  exact ⟨q0, q1, qP, va_K.moved (u := U) (U := U.calling g mk a) (Vm.Alike.refl U.vm) qK, qD, Tb.same (U := U.calling g mk a) rfl qT⟩
theorem Wd.enter {G : Gt} {s : State} {ws : va_W} (hP : va_P G.1 vwCl ws s.heap) (hK : va_K G.1 vwCl (TYs G) s) (hD : va_D (fun _ => True) ws) (hT : Tb s) : Wd G (va_A ws s.heap.size) s ws s.heap [] :=
  ⟨hP, hD.self, va_S.rf, hK, fun _ h => Or.inr h, hT⟩
theorem Wd.preS {G : Gt} {A : Nat → Prop} {s : State} {ws : va_W} {H : Heap} {locs : List Loc} (w : Wd G A s ws H locs) (av : List Value) : PreS s H (Pw G av ws H.size) av :=
  ⟨Pw.blind, fun U hU hW => ⟨rfl, by rw [hU], by rw [hU]; exact w.1, va_K.moved hW.alike w.2.2.2.1, w.2.1.weaken (fun _ _ _ _ => trivial), w.2.2.2.2.2.warm hW⟩⟩
theorem Wd.recv {G : Gt} {A : Nat → Prop} {s : State} {ws : va_W} {H : Heap} {locs : List Loc} (w : Wd G A s ws H locs) {a ci : Nat} {fs : List Value} {q : vw_C} (he : hp ws a (.inr (ci, fs))) (hc : vwCl[ci]? = some q) : ∃ cell : Cell, H[a]? = some cell ∧ cell.vm.isStatics = false ∧ s.vm.findClass q.1 = some cell.cls := by
  obtain ⟨k, hk⟩ := he
  exact va_recv w.2.2.2.1 w.1 hc hk
theorem Wd.preV {G : Gt} {A : Nat → Prop} {s : State} {ws : va_W} {H : Heap} {locs : List Loc} (w : Wd G A s ws H locs) {b ci : Nat} {fs : List Value} {q : vw_C} (he : hp ws b (.inr (ci, fs))) (hc : vwCl[ci]? = some q) (As : List Value) : PreV s H q.1 b (Pw G (.ref b :: As) ws H.size) As :=
  ⟨Pw.blind, w.recv he hc, (w.preS (.ref b :: As)).2⟩
/-- behind a call that wrote: the caller's world is the callee's -/
theorem Wd.back {G : Gt} {A : Nat → Prop} {s t : State} {ws u : va_W} {H H1 : Heap} {locs locs1 : List Loc} (w : Wd G A s ws H locs) (hB : Bw G ws H.size u t) (ht : t.heap = H1) (hS : va_S A s.heap H1 locs1) : Wd G A s u H1 locs1 := by
  obtain ⟨hP, hD, hS0, hK, hA, hT⟩ := w
  refine ⟨by rw [← ht]; exact hB.1, hB.2.weaken (fun k q hk hq => ?_), hS, hK, hA, hT⟩
  rcases hq with ⟨j, e, hj⟩ | hq
  · exact hD.2 j (q.1, e) hj
  · exact hA _ (Nat.le_trans hS0.1 hq)
theorem Wd.sub {G : Gt} {A : Nat → Prop} {s : State} {ws : va_W} {H : Heap} {locs : List Loc} (w : Wd G A s ws H locs) : ∀ q, va_A ws H.size q → A q := by
  obtain ⟨hP, hD, hS0, hK, hA, hT⟩ := w
  intro q h
  rcases h with ⟨k, e, h⟩ | h
  · exact hD.2 k _ h
  · exact hA q (Nat.le_trans hS0.1 h)
section LIBR
variable {p : Program} {l : Launch} {e : Env} {R : Room} {s : State} {m : MethodId} {args : Array Value} {below : List Frame} {meth : Method} {c : Code} {H : Heap} {locs : List Loc} {cells slots : Nat} {Q : State → Prop}
variable {cc : ByteArray} {nL pc : Nat} {ls : Array Slot} {rest : List Value} {Ts : List Cond} {own : String} {G : Gt} {A : Nat → Prop} {a : Nat} {ws : va_W}
theorem r_get (S : CallFix p m c cc nL s args Ts own) (w : Wd G A s ws H locs) {ci : Nat} {fs : List Value} (he : hp ws a (.inr (ci, fs))) {C : String} {T : u_T} {N : Nat} (hc : vwCl[ci]? = some (C, T, N)) (hin : ∀ w ∈ u_ws C T N, w ∈ Ts) (k : Nat) (hk : k < N) {index : Nat} {ref : String} (hlink : Cond.fieldLink own index ref (T k).2.1 (T k).2.2.1 ∈ Ts) (hsame : ref = (T k).1 ∨ Cond.sameField ref (T k).1 (T k).2.1 (T k).2.2.1 ∈ Ts) {v : Value} (hv : fs[k]? = some v) (hdg : decode cc pc = .ok (.getfield index, 3))
    (kk : W p l e R s m args below meth c H locs cells slots Q (F0 m (pc + 3) ls (v :: rest))) : W p l e R s m args below meth c H locs cells slots Q (F0 m pc ls (.ref a :: rest)) := by
  obtain ⟨hx, hb, hml, hown, hts⟩ := S
  obtain ⟨q0, hq⟩ := he
  refine va_get (D := G.1) hx hb hts hin hown w.2.2.2.1 w.1 q0 hq hc k hk (hts _ hlink) (fun x h => ?_) hv hdg kk
  rcases hsame with h1 | h1
  · rw [h1]; exact h
  · exact u_same (hts _ h1) x h
theorem r_put (S : CallFix p m c cc nL s args Ts own) (w : Wd G A s ws H locs) {ci : Nat} {fs : List Value} (he : hp ws a (.inr (ci, fs))) {C : String} {T : u_T} {N : Nat} (hc : vwCl[ci]? = some (C, T, N)) (hin : ∀ w ∈ u_ws C T N, w ∈ Ts) {ty0 : Nat → FieldType} (hty : ∀ k, k < N → parseFieldDescriptor (T k).2.2.1 = some (ty0 k)) (hnm : ∀ a, a < N → ∀ b, b < N → a ≠ b → (T a).2.1 ≠ (T b).2.1) (k : Nat) (hk : k < N) {index : Nat} {ref : String} (hlink : Cond.fieldLink own index ref (T k).2.1 (T k).2.2.1 ∈ Ts) (hsame : ref = (T k).1 ∨ Cond.sameField ref (T k).1 (T k).2.1 (T k).2.2.1 ∈ Ts) (hfin : (T k).2.2.2 = false) {v : Value} (hn : narrow (ty0 k) v = v) (hfit : fits (ty0 k) v = true) (hl : k < fs.length) (hdg : decode cc pc = .ok (.putfield index, 3))
    (kk : ∀ (ws' : va_W) (H1 : Heap) (locs1 : List Loc), hu ws a (.inr (ci, fs.set k v)) ws' → Wd G A s ws' H1 locs1 → W p l e R s m args below meth c H1 locs1 cells slots Q (F0 m (pc + 3) ls rest)) : W p l e R s m args below meth c H locs cells slots Q (F0 m pc ls (v :: .ref a :: rest)) := by
  obtain ⟨hx, hb, hml, hown, hts⟩ := S
  obtain ⟨hP, hD, hS, hK, hA, hT⟩ := w
  obtain ⟨q0, hq⟩ := he
  refine va_put (D := G.1) hx hb hts hin ty0 hty hnm hown hK hP hD hS q0 hq hc k hk (hts _ hlink) (fun x h => ?_) hfin (hty k hk) hn hfit hl hdg (fun H1 locs1 hP1 hD1 hS1 => kk _ H1 locs1 (hu_set hq) ⟨hP1, hD1, hS1, hK, hA, hT⟩)
  rcases hsame with h1 | h1
  · rw [h1]; exact h
  · exact u_same (hts _ h1) x h
theorem r_putF (S : CallFix p m c cc nL s args Ts own) (w : Wd G A s ws H locs) (hinit : meth.name = "<init>") {ci : Nat} {fs : List Value} (he : hp ws a (.inr (ci, fs))) {C : String} {T : u_T} {N : Nat} (hc : vwCl[ci]? = some (C, T, N)) (hin : ∀ w ∈ u_ws C T N, w ∈ Ts) {ty0 : Nat → FieldType} (hty : ∀ k, k < N → parseFieldDescriptor (T k).2.2.1 = some (ty0 k)) (hnm : ∀ a, a < N → ∀ b, b < N → a ≠ b → (T a).2.1 ≠ (T b).2.1) (k : Nat) (hk : k < N) {index : Nat} (hlink : Cond.fieldLink own index (T k).1 (T k).2.1 (T k).2.2.1 ∈ Ts) (hfin : (T k).2.2.2 = true) (hcl : (T k).1 = own) {v : Value} (hn : narrow (ty0 k) v = v) (hfit : fits (ty0 k) v = true) (hl : k < fs.length) (hdg : decode cc pc = .ok (.putfield index, 3))
    (kk : ∀ (ws' : va_W) (H1 : Heap) (locs1 : List Loc), hu ws a (.inr (ci, fs.set k v)) ws' → Wd G A s ws' H1 locs1 → W p l e R s m args below meth c H1 locs1 cells slots Q (F0 m (pc + 3) ls rest)) : W p l e R s m args below meth c H locs cells slots Q (F0 m pc ls (v :: .ref a :: rest)) := by
  obtain ⟨hx, hb, hml, hown, hts⟩ := S
  obtain ⟨hP, hD, hS, hK, hA, hT⟩ := w
  obtain ⟨q0, hq⟩ := he
  exact va_putF (D := G.1) hx hb hts hin ty0 hty hnm hown hK hP hD hS q0 hq hc k hk (hts _ hlink) (fun x h => h) hfin hinit hcl (hty k hk) hn hfit hl hdg (fun H1 locs1 hP1 hD1 hS1 => kk _ H1 locs1 (hu_set hq) ⟨hP1, hD1, hS1, hK, hA, hT⟩)
theorem r_iald (S : CallFix p m c cc nL s args Ts own) (w : Wd G A s ws H locs) {n : Nat} {f : Nat → Int32} (ha : hp ws a (aI G n f)) {i : Int32} (hin : vp_in i n) (hdg : decode cc pc = .ok (.iaload, 1))
    (kk : W p l e R s m args below meth c H locs cells slots Q (F0 m (pc + 1) ls (.int (f i.toNatClampNeg) :: rest))) : W p l e R s m args below meth c H locs cells slots Q (F0 m pc ls (.int i :: .ref a :: rest)) := by
  obtain ⟨q0, hq⟩ := ha
  exact va_iald S.1 S.2.1 w.2.2.2.1 w.1 q0 0 hq rfl hin hdg kk
theorem r_lald (S : CallFix p m c cc nL s args Ts own) (w : Wd G A s ws H locs) {n : Nat} {f : Nat → Int64} (ha : hp ws a (aJ G n f)) {i : Int32} (hin : vp_in i n) (hdg : decode cc pc = .ok (.laload, 1))
    (kk : W p l e R s m args below meth c H locs cells slots Q (F0 m (pc + 1) ls (.long (f i.toNatClampNeg) :: rest))) : W p l e R s m args below meth c H locs cells slots Q (F0 m pc ls (.int i :: .ref a :: rest)) := by
  obtain ⟨q0, hq⟩ := ha
  exact va_lald S.1 S.2.1 w.2.2.2.1 w.1 q0 1 hq rfl hin hdg kk
theorem r_aald (S : CallFix p m c cc nL s args Ts own) (w : Wd G A s ws H locs) {n : Nat} {f : Nat → Option Nat} (ha : hp ws a (aT G n f)) {i : Int32} (hin : vp_in i n) (hdg : decode cc pc = .ok (.aaload, 1))
    (kk : W p l e R s m args below meth c H locs cells slots Q (F0 m (pc + 1) ls (va_rf (f i.toNatClampNeg) :: rest))) : W p l e R s m args below meth c H locs cells slots Q (F0 m pc ls (.int i :: .ref a :: rest)) := by
  obtain ⟨q0, hq⟩ := ha
  exact va_aldq S.1 S.2.1 w.2.2.2.1 w.1 q0 2 hq rfl hin hdg kk
theorem r_ilen (S : CallFix p m c cc nL s args Ts own) (w : Wd G A s ws H locs) {n : Nat} {f : Nat → Int32} (ha : hp ws a (aI G n f)) (hdg : decode cc pc = .ok (.arraylength, 1))
    (kk : W p l e R s m args below meth c H locs cells slots Q (F0 m (pc + 1) ls (.int (nI n) :: rest))) : W p l e R s m args below meth c H locs cells slots Q (F0 m pc ls (.ref a :: rest)) := by
  obtain ⟨q0, hq⟩ := ha
  exact va_alen S.1 S.2.1 w.2.2.2.1 w.1 q0 0 hq rfl rfl hdg kk
theorem r_llen (S : CallFix p m c cc nL s args Ts own) (w : Wd G A s ws H locs) {n : Nat} {f : Nat → Int64} (ha : hp ws a (aJ G n f)) (hdg : decode cc pc = .ok (.arraylength, 1))
    (kk : W p l e R s m args below meth c H locs cells slots Q (F0 m (pc + 1) ls (.int (nI n) :: rest))) : W p l e R s m args below meth c H locs cells slots Q (F0 m pc ls (.ref a :: rest)) := by
  obtain ⟨q0, hq⟩ := ha
  exact va_alen S.1 S.2.1 w.2.2.2.1 w.1 q0 1 hq rfl rfl hdg kk
theorem r_alen (S : CallFix p m c cc nL s args Ts own) (w : Wd G A s ws H locs) {n : Nat} {f : Nat → Option Nat} (ha : hp ws a (aT G n f)) (hdg : decode cc pc = .ok (.arraylength, 1))
    (kk : W p l e R s m args below meth c H locs cells slots Q (F0 m (pc + 1) ls (.int (nI n) :: rest))) : W p l e R s m args below meth c H locs cells slots Q (F0 m pc ls (.ref a :: rest)) := by
  obtain ⟨q0, hq⟩ := ha
  exact va_alen S.1 S.2.1 w.2.2.2.1 w.1 q0 2 hq rfl rfl hdg kk
theorem r_iast (S : CallFix p m c cc nL s args Ts own) (w : Wd G A s ws H locs) {n : Nat} {f : Nat → Int32} (ha : hp ws a (aI G n f)) {i x : Int32} (hin : vp_in i n) (hdg : decode cc pc = .ok (.iastore, 1))
    (kk : ∀ (ws' : va_W) (H1 : Heap) (locs1 : List Loc), hu ws a (aI G n (upd f i.toNatClampNeg x)) ws' → Wd G A s ws' H1 locs1 → W p l e R s m args below meth c H1 locs1 cells slots Q (F0 m (pc + 1) ls rest)) : W p l e R s m args below meth c H locs cells slots Q (F0 m pc ls (.int x :: .int i :: .ref a :: rest)) := by
  obtain ⟨q0, hq⟩ := ha
  obtain ⟨hP, hD, hS, hK, hA, hT⟩ := w
  exact va_iast S.1 S.2.1 hK hP hD hS q0 0 hq rfl hin hdg (fun H1 locs1 hP1 hD1 hS1 => kk _ H1 locs1 (hu_set hq) ⟨hP1, hD1, hS1, hK, hA, hT⟩)
theorem r_last (S : CallFix p m c cc nL s args Ts own) (w : Wd G A s ws H locs) {n : Nat} {f : Nat → Int64} (ha : hp ws a (aJ G n f)) {i : Int32} {x : Int64} (hin : vp_in i n) (hdg : decode cc pc = .ok (.lastore, 1))
    (kk : ∀ (ws' : va_W) (H1 : Heap) (locs1 : List Loc), hu ws a (aJ G n (vp_updL f i.toNatClampNeg x)) ws' → Wd G A s ws' H1 locs1 → W p l e R s m args below meth c H1 locs1 cells slots Q (F0 m (pc + 1) ls rest)) : W p l e R s m args below meth c H locs cells slots Q (F0 m pc ls (.long x :: .int i :: .ref a :: rest)) := by
  obtain ⟨q0, hq⟩ := ha
  obtain ⟨hP, hD, hS, hK, hA, hT⟩ := w
  exact va_last S.1 S.2.1 hK hP hD hS q0 1 hq rfl hin hdg (fun H1 locs1 hP1 hD1 hS1 => kk _ H1 locs1 (hu_set hq) ⟨hP1, hD1, hS1, hK, hA, hT⟩)
/-- an object of one of the three kinds is an Item -/
theorem Wd.any (w : Wd G A s ws H locs) {v ci : Nat} {fs : List Value} (hv : hp ws v (.inr (ci, fs))) (hi : ci < 3) : va_Any "SpanMover$Item" s H v := by
  obtain ⟨k, hk⟩ := hv
  obtain ⟨hP, hD, hS, hK, hA, hT⟩ := w
  have h4 := hT.1 ci 4 hi (by decide)
  rcases (show ci = 0 ∨ ci = 1 ∨ ci = 2 by omega) with rfl | rfl | rfl
  · exact va_rAny hK hP hk (r := (RX1, TX1, 5)) rfl (fun comp c0 h1 h2 => vb_asgC (h4 rfl) comp c0 h1 h2)
  · exact va_rAny hK hP hk (r := (RX2, TX2, 3)) rfl (fun comp c0 h1 h2 => vb_asgC (h4 rfl) comp c0 h1 h2)
  · exact va_rAny hK hP hk (r := (RX4, TX4, 2)) rfl (fun comp c0 h1 h2 => vb_asgC (h4 rfl) comp c0 h1 h2)
theorem r_aast (S : CallFix p m c cc nL s args Ts own) (w : Wd G A s ws H locs) {n : Nat} {f : Nat → Option Nat} (ha : hp ws a (aT G n f)) {i : Int32} {r : Option Nat} (hr : ∀ v, r = some v → va_Any "SpanMover$Item" s H v) (hin : vp_in i n) (hdg : decode cc pc = .ok (.aastore, 1))
    (kk : ∀ (ws' : va_W) (H1 : Heap) (locs1 : List Loc), hu ws a (aT G n (va_up f i.toNatClampNeg r)) ws' → Wd G A s ws' H1 locs1 → W p l e R s m args below meth c H1 locs1 cells slots Q (F0 m (pc + 1) ls rest)) : W p l e R s m args below meth c H locs cells slots Q (F0 m pc ls (va_rf r :: .int i :: .ref a :: rest)) := by
  obtain ⟨q0, hq⟩ := ha
  obtain ⟨hP, hD, hS, hK, hA, hT⟩ := w
  cases r with
  | none => exact va_astqN S.1 S.2.1 hK hP hD hS q0 2 hq rfl hin hdg (fun H1 locs1 hP1 hD1 hS1 => kk _ H1 locs1 (hu_set hq) ⟨hP1, hD1, hS1, hK, hA, hT⟩)
  | some v => exact va_astqM S.1 S.2.1 hK hP hD hS q0 2 hq rfl (hr v rfl) hin hdg (fun H1 locs1 hP1 hD1 hS1 => kk _ H1 locs1 (hu_set hq) ⟨hP1, hD1, hS1, hK, hA, hT⟩)
/-- instanceof, of one of the three kinds -/
theorem r_inst (S : CallFix p m c cc nL s args Ts own) (w : Wd G A s ws H locs) {ci : Nat} {fs : List Value} (he : hp ws a (.inr (ci, fs))) (hi : ci < 3) (j : Nat) (hj : j < 5) {index : Nat} (hlink : Cond.classLink own index (t_tg j) ∈ Ts) {v : Int32} (hv : v = if t_is ci j then 1 else 0) (hdg : decode cc pc = .ok (.instanceof index, 3))
    (kk : W p l e R s m args below meth c H locs cells slots Q (F0 m (pc + 3) ls (.int v :: rest))) : W p l e R s m args below meth c H locs cells slots Q (F0 m pc ls (.ref a :: rest)) := by
  obtain ⟨hx, hb, hml, hown, hts⟩ := S
  have hr : ∃ cell : Cell, H[a]? = some cell ∧ cell.vm.isStatics = false ∧ s.vm.findClass (t_nm ci) = some cell.cls := by
    rcases (show ci = 0 ∨ ci = 1 ∨ ci = 2 by omega) with rfl | rfl | rfl
    · exact w.recv (q := (RX1, TX1, 5)) he rfl
    · exact w.recv (q := (RX2, TX2, 3)) he rfl
    · exact w.recv (q := (RX4, TX4, 2)) he rfl
  subst hv
  cases ht : t_is ci j with
  | true => exact va_instY hx hb hown (hts _ hlink) (w.2.2.2.2.2.1 ci j hi hj ht) hr hdg (by rw [ht] at kk; exact kk)
  | false => exact va_instNo hx hb hown (hts _ hlink) (w.2.2.2.2.2.2.1 ci j hi hj ht) hr hdg (by rw [ht] at kk; exact kk)
theorem r_cast (S : CallFix p m c cc nL s args Ts own) (w : Wd G A s ws H locs) {ci : Nat} {fs : List Value} (he : hp ws a (.inr (ci, fs))) (hi : ci < 3) (j : Nat) (hj : j < 5) (ht : t_is ci j = true) {index : Nat} (hlink : Cond.classLink own index (t_tg j) ∈ Ts) (hdg : decode cc pc = .ok (.checkcast index, 3))
    (kk : W p l e R s m args below meth c H locs cells slots Q (F0 m (pc + 3) ls (.ref a :: rest))) : W p l e R s m args below meth c H locs cells slots Q (F0 m pc ls (.ref a :: rest)) := by
  obtain ⟨hx, hb, hml, hown, hts⟩ := S
  have hr : ∃ cell : Cell, H[a]? = some cell ∧ cell.vm.isStatics = false ∧ s.vm.findClass (t_nm ci) = some cell.cls := by
    rcases (show ci = 0 ∨ ci = 1 ∨ ci = 2 by omega) with rfl | rfl | rfl
    · exact w.recv (q := (RX1, TX1, 5)) he rfl
    · exact w.recv (q := (RX2, TX2, 3)) he rfl
    · exact w.recv (q := (RX4, TX4, 2)) he rfl
  exact va_castY hx hb hown (hts _ hlink) (w.2.2.2.2.2.1 ci j hi hj ht) hr hdg kk
end LIBR
