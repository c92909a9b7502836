section LIBN
variable {p : Program} {l : Launch} {e : Env} {R : Room} {s : State} {m : MethodId} {args : Array Value} {below : List Frame} {meth : Method} {c : Code} {H : Heap} {locs : List Loc} {cells slots : Nat} {Q : State → Prop}
variable {cc : ByteArray} {nL pc : Nat} {ls : Array Slot} {rest : List Value} {Ts : List Cond} {own : String} {G : Gt} {A : Nat → Prop} {ws : va_W}
theorem fresh_of {A : Nat → Prop} {ws : va_W} {q : Nat} {e0 : va_E} (hD : va_D A (ws ++ [(q, e0)])) : ∀ e, ¬ hp ws q e := by
  intro e ⟨k, hk⟩
  have hl := (List.getElem?_eq_some_iff.mp hk).1
  have := hD.1 k ws.length (q, e) (q, e0) (by rw [List.getElem?_append_left hl]; exact hk) (by rw [List.getElem?_append_right (Nat.le_refl _), Nat.sub_self]; rfl) rfl
  omega
/-- an array's class is the one that the tables name -/
theorem Wd.cls (w : Wd G A s ws H locs) {cA cB : ClassId} {ty : FieldType} {t0 : Nat} (h0 : (TYs G)[t0]? = some (cB, ty)) (hK : va_K G.1 vwCl (TYs G ++ [(cA, ty)]) s) : cA = cB := by
  have h1 := (w.2.2.2.1.2 t0 _ h0).2
  have h2 := (hK.2 3 (cA, ty) rfl).2
  cases ty with
  | object C =>
    obtain ⟨k1, c1, a1, a2, a3, a4⟩ := h1
    obtain ⟨k2, c2, b1, b2, b3, b4⟩ := h2
    exact Option.some.inj (b4.symm.trans a4)
  | _ => exact Option.some.inj (Eq.trans (Eq.symm h2) h1)
theorem r_newI (S : CallFix p m c cc nL s args Ts own) (w : Wd G A s ws H locs) (hw : Cond.arrayClass .int ∈ Ts) {n : Int32} {N : Nat} (hn : ¬ n < 0) (hN : n.toNatClampNeg = N) (hb : N ≤ 100000) (hcells : cells + 1 ≤ R.cells) (hslots : slots + N ≤ R.slots) (hdg : decode cc pc = .ok (.newarray .int, 2))
    (kk : ∀ (q : Nat) (ws' : va_W) (H1 : Heap), (∀ e, ¬ hp ws q e) → hu ws q (aI G N (fun _ => 0)) ws' → Wd G A s ws' H1 locs → W p l e R s m args below meth c H1 locs (cells + 1) (slots + N) Q (F0 m (pc + 2) ls (.ref q :: rest))) : W p l e R s m args below meth c H locs cells slots Q (F0 m pc ls (.int n :: rest)) := by
  have w0 := w
  obtain ⟨hP, hD, hS, hK, hA, hT⟩ := w
  refine va_newa (atype := .int) (ty := .int) (a0 := (N, .inl (fun _ => 0))) S.1 S.2.1 (S.2.2.2.2 _ hw) rfl hK hP hD hS hA (fun cA => rfl) hn hN (by simp [componentBytes]; omega) hcells hslots hdg (fun q cA H1 hK1 hP1 hD1 hS1 => ?_)
  have e1 : cA = G.2.1 := w0.cls (t0 := 0) rfl hK1
  subst e1
  exact kk q _ H1 (fresh_of hD1) hu_push ⟨hP1, hD1, hS1, hK, hA, hT⟩
theorem r_newJ (S : CallFix p m c cc nL s args Ts own) (w : Wd G A s ws H locs) (hw : Cond.arrayClass .long ∈ Ts) {n : Int32} {N : Nat} (hn : ¬ n < 0) (hN : n.toNatClampNeg = N) (hb : N ≤ 100000) (hcells : cells + 1 ≤ R.cells) (hslots : slots + N ≤ R.slots) (hdg : decode cc pc = .ok (.newarray .long, 2))
    (kk : ∀ (q : Nat) (ws' : va_W) (H1 : Heap), (∀ e, ¬ hp ws q e) → hu ws q (aJ G N (fun _ => 0)) ws' → Wd G A s ws' H1 locs → W p l e R s m args below meth c H1 locs (cells + 1) (slots + N) Q (F0 m (pc + 2) ls (.ref q :: rest))) : W p l e R s m args below meth c H locs cells slots Q (F0 m pc ls (.int n :: rest)) := by
  have w0 := w
  obtain ⟨hP, hD, hS, hK, hA, hT⟩ := w
  refine va_newa (atype := .long) (ty := .long) (a0 := (N, .inr (.inl (fun _ => 0)))) S.1 S.2.1 (S.2.2.2.2 _ hw) rfl hK hP hD hS hA (fun cA => rfl) hn hN (by simp [componentBytes]; omega) hcells hslots hdg (fun q cA H1 hK1 hP1 hD1 hS1 => ?_)
  have e1 : cA = G.2.2.1 := w0.cls (t0 := 1) rfl hK1
  subst e1
  exact kk q _ H1 (fresh_of hD1) hu_push ⟨hP1, hD1, hS1, hK, hA, hT⟩
theorem r_newT (S : CallFix p m c cc nL s args Ts own) (w : Wd G A s ws H locs) {index : Nat} (hw : Cond.classLink own index "SpanMover$Item" ∈ Ts) {n : Int32} {N : Nat} (hn : ¬ n < 0) (hN : n.toNatClampNeg = N) (hb : N ≤ 100000) (hcells : cells + 1 ≤ R.cells) (hslots : slots + N ≤ R.slots) (hdg : decode cc pc = .ok (.anewarray index, 3))
    (kk : ∀ (q : Nat) (ws' : va_W) (H1 : Heap), (∀ e, ¬ hp ws q e) → hu ws q (aT G N (fun _ => none)) ws' → Wd G A s ws' H1 locs → W p l e R s m args below meth c H1 locs (cells + 1) (slots + N) Q (F0 m (pc + 3) ls (.ref q :: rest))) : W p l e R s m args below meth c H locs cells slots Q (F0 m pc ls (.int n :: rest)) := by
  have w0 := w
  obtain ⟨hP, hD, hS, hK, hA, hT⟩ := w
  refine va_newq S.1 S.2.1 S.2.2.2.1 (S.2.2.2.2 _ hw) hT.2.2.1 hK hP hD hS hA hn hN (by omega) hcells hslots hdg (fun q cA H1 hK1 hP1 hD1 hS1 => ?_)
  have e1 : cA = G.2.2.2 := w0.cls (t0 := 2) rfl hK1
  subst e1
  exact kk q _ H1 (fresh_of hD1) hu_push ⟨hP1, hD1, hS1, hK, hA, hT⟩
theorem r_new (S : CallFix p m c cc nL s args Ts own) (w : Wd G A s ws H locs) {ci : Nat} {C : String} {T : u_T} {N : Nat} (hc : vwCl[ci]? = some (C, T, N)) (hin : ∀ w ∈ u_ws C T N, w ∈ Ts) {ty : Nat → FieldType} (hty : ∀ k, k < N → parseFieldDescriptor (T k).2.2.1 = some (ty k)) {index : Nat} (hw : Cond.classLink own index C ∈ Ts ∧ Cond.instantiable C N ∈ Ts ∧ Cond.initialized C ∈ Ts) {fs : List Value} (hfs : ∀ j, j < N → defaultValue (ty j) = vp_V fs j) (hcells : cells + 1 ≤ R.cells) (hslots : slots + N ≤ R.slots) (hdg : decode cc pc = .ok (.new index, 3))
    (kk : ∀ (q : Nat) (ws' : va_W) (H1 : Heap), (∀ e, ¬ hp ws q e) → hu ws q (.inr (ci, fs)) ws' → Wd G A s ws' H1 locs → W p l e R s m args below meth c H1 locs (cells + 1) (slots + N) Q (F0 m (pc + 3) ls (.ref q :: rest))) : W p l e R s m args below meth c H locs cells slots Q (F0 m pc ls rest) := by
  obtain ⟨hP, hD, hS, hK, hA, hT⟩ := w
  exact va_new S.1 S.2.1 S.2.2.2.2 hin ty hty S.2.2.2.1 (S.2.2.2.2 _ hw.1) (S.2.2.2.2 _ hw.2.1) (S.2.2.2.2 _ hw.2.2) hK hP hD hS hA hc hfs hcells hslots hdg (fun q H1 hP1 hD1 hS1 => kk q _ H1 (fresh_of hD1) hu_push ⟨hP1, hD1, hS1, hK, hA, hT⟩)
end LIBN
def nw2 (ws : va_W) (a b : Nat) (ea eb : va_E) (u : va_W) : Prop := hp u a ea ∧ hp u b eb ∧ a ≠ b ∧ (∀ e, ¬ hp ws b e) ∧ ∀ c e, c ≠ a → c ≠ b → (hp u c e ↔ hp ws c e)
/-- the state of a new object -/
def S0 : St := (0, fun _ => none, fun _ => none, fun _ => 0, fun k => if k = 1 then 60000 else 0)
theorem S0_inv : Inv S0 := ⟨by decide, rfl, ⟨0, by decide, rfl⟩, (fun h o q => by cases q), (fun h h' o o' q => by cases q), (fun i h q => by cases q), (fun h o q => by cases q)⟩
/-- a new object on the shelf -/
theorem RpX.new {G : Gt} {x sh li : Nat} {ad ar : Nat → Nat} {S : St} {A : Nat → Prop} {ws1 ws4 : va_W} {c : Int32} {o : Ob} {a b pl : Nat} (hI : Inv S) (hD : va_D A ws1) (hR : RpX G x sh li ad ar (s_u S, s_o S, s_s S, s_l S, upd (s_c S) 1 c) ws1) (fa : ∀ e, ¬ hp ws1 a e) (fb : o_k o ≤ 6 → a ≠ b ∧ ∀ e, ¬ hp ws1 b e)
    (ha : hp ws4 a (.inr (o_cl (o_k o), o_fs o b 0 0))) (hb3 : o_k o ≤ 3 → hp ws4 b (aJ G (o_n o) (o_f o))) (hb6 : 4 ≤ o_k o → o_k o ≤ 6 → hp ws4 b (aT G (o_n o) (fun _ => none))) (he : o_e o = fun _ => none) (hs : hp ws4 sh (aT G 400 (va_up (fun i => (s_s S i).map ad) pl (some a)))) (hk : ∀ q e, q ≠ a → (o_k o ≤ 6 → q ≠ b) → q ≠ sh → (hp ws4 q e ↔ hp ws1 q e)) :
    RpX G x sh li (va_up ad (s_u S) a) (va_up ar (s_u S) b) (s_new S pl o c) ws4 := by
  obtain ⟨h1, h2, h3, h4, h5, h6⟩ := hR
  have ne : ∀ {q : Nat} {e : va_E}, hp ws1 q e → q ≠ a ∧ (o_k o ≤ 6 → q ≠ b) := fun {q e} hq => ⟨fun z => fa e (by rw [← z]; exact hq), fun z z' => (fb z).2 e (by rw [← z']; exact hq)⟩
  have nu : ∀ {h : Nat} {oh : Ob}, s_o S h = some oh → h ≠ s_u S := fun {h oh} hh z => by
    have := (hI.2.2.2.1 h oh hh).2.2
    omega
  have adk : ∀ {h : Nat} {oh : Ob}, s_o S h = some oh → va_up ad (s_u S) a h = ad h := fun hh => va_up_ne _ _ (nu hh)
  have ark : ∀ {h : Nat} {oh : Ob}, s_o S h = some oh → va_up ar (s_u S) b h = ar h := fun hh => va_up_ne _ _ (nu hh)
  have hx0 := ne h1
  have hl0 := ne h3
  have xsh : x ≠ sh := hp_ne_of hD h1 h2 (fun q => by cases q)
  have lsh : li ≠ sh := hp_ne_of hD h3 h2 (fun q => by simp at q)
  have old : ∀ {h : Nat} {oh : Ob}, s_o (s_new S pl o c) h = some oh → (h = s_u S ∧ oh = o) ∨ s_o S h = some oh := by
    intro h oh hh
    by_cases hu0 : h = s_u S
    · subst hu0
      have := hh.symm.trans (va_up_eq (f := s_o S) (k := s_u S) (v := some o))
      cases this
      exact Or.inl ⟨rfl, rfl⟩
    · exact Or.inr (by rw [← hh]; exact (va_up_ne (s_o S) _ hu0).symm)
  have oldc : ∀ {h : Nat} {oh : Ob}, s_o S h = some oh → (ad h ≠ a ∧ (o_k o ≤ 6 → ad h ≠ b) ∧ ad h ≠ sh) ∧ (o_k oh ≤ 6 → ar h ≠ a ∧ (o_k o ≤ 6 → ar h ≠ b) ∧ ar h ≠ sh) := by
    intro h oh hh
    obtain ⟨dk, kd, q1, q2, q3, q4⟩ := h4 h oh hh
    refine ⟨⟨(ne q1).1, (ne q1).2, hp_ne_of hD q1 h2 (fun q => by cases q)⟩, fun z => ?_⟩
    by_cases z3 : o_k oh ≤ 3
    · exact ⟨(ne (q3 z3)).1, (ne (q3 z3)).2, h6 h oh hh z⟩
    · exact ⟨(ne (q4 (by omega) z)).1, (ne (q4 (by omega) z)).2, h6 h oh hh z⟩
  have mapk : ∀ r : Option Nat, (∀ h, r = some h → ∃ oh, s_o S h = some oh) → r.map (va_up ad (s_u S) a) = r.map ad := by
    intro r hr
    cases r with
    | none => rfl
    | some h =>
      obtain ⟨oh, hh⟩ := hr h rfl
      show some _ = some _
      rw [adk hh]
  refine ⟨(hk x _ hx0.1 hx0.2 xsh).mpr h1, ?_, (hk li _ hl0.1 hl0.2 lsh).mpr h3, fun h oh hh => ?_, fun h h' oh oh' hh hh' hn => ?_, fun h oh hh hko => ?_⟩
  · have e1 : (fun i => (s_s (s_new S pl o c) i).map (va_up ad (s_u S) a)) = va_up (fun i => (s_s S i).map ad) pl (some a) := by
      funext i
      show (va_up (s_s S) pl (some (s_u S)) i).map _ = _
      by_cases hi : i = pl
      · subst hi
        rw [va_up_self, va_up_self]
        show some _ = some _
        rw [va_up_self]
      · rw [va_up_ne _ _ hi, va_up_ne _ _ hi]
        exact mapk _ (fun h hh => hI.2.2.2.2.2.1 i h hh)
    rw [e1]
    exact hs
  · rcases old hh with ⟨rfl, rfl⟩ | hh
    · refine ⟨0, 0, ?_, Or.inl rfl, fun z => ?_, fun z z' => ?_⟩
      · rw [va_up_self, va_up_self]
        exact ha
      · rw [va_up_self]
        exact hb3 z
      · rw [va_up_self, he]
        exact hb6 z z'
    · obtain ⟨⟨n1, n2, n3⟩, n4⟩ := oldc hh
      obtain ⟨dk, kd, q1, q2, q3, q4⟩ := h4 h oh hh
      refine ⟨dk, kd, ?_, q2, fun z => ?_, fun z z' => ?_⟩
      · rw [adk hh, ark hh]
        exact (hk _ _ n1 n2 n3).mpr q1
      · obtain ⟨m1, m2, m3⟩ := n4 (by omega)
        rw [ark hh]
        exact (hk _ _ m1 m2 m3).mpr (q3 z)
      · obtain ⟨m1, m2, m3⟩ := n4 z'
        rw [ark hh]
        have e1 : (fun i => (o_e oh i).map (va_up ad (s_u S) a)) = fun i => (o_e oh i).map ad := by
          funext i
          exact mapk _ (fun h2 hh2 => hI.el hh z z' i h2 hh2)
        rw [e1]
        exact (hk _ _ m1 m2 m3).mpr (q4 z z')
  · rcases old hh with ⟨e1, e2⟩ | g1
    · rcases old hh' with ⟨e3, e4⟩ | g2
      · exact absurd (e1.trans e3.symm) hn
      · subst e1; subst e2
        obtain ⟨⟨n1, n2, n3⟩, n4⟩ := oldc g2
        rw [va_up_self, va_up_self, adk g2, ark g2]
        exact ⟨n1.symm, fun z z' => ((n4 z').2.1 z).symm⟩
    · rcases old hh' with ⟨e3, e4⟩ | g2
      · subst e3; subst e4
        obtain ⟨⟨n1, n2, n3⟩, n4⟩ := oldc g1
        rw [va_up_self, va_up_self, adk g1, ark g1]
        exact ⟨n1, fun z z' => (n4 z).2.1 z'⟩
      · rw [adk g1, ark g1, adk g2, ark g2]
        exact h5 h h' oh oh' g1 g2 hn
  · rcases old hh with ⟨rfl, rfl⟩ | hh
    · rw [va_up_self]
      exact ((ne h2).2 hko).symm
    · rw [ark hh]
      exact h6 h oh hh hko
