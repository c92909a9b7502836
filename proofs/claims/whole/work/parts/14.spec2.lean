/-! WHAT THE PUBLIC METHODS ANSWER, AND THE STATE BEHIND THEM -/
def o_setf (o : Ob) (f : Nat → Int64) : Ob := (o_k o, o_n o, o_v o, f, o_e o)
def o_sete (o : Ob) (e : Nat → Option Nat) : Ob := (o_k o, o_n o, o_v o, o_f o, e)
def s_put (S : St) (h : Nat) (o : Ob) : St := (s_u S, va_up (s_o S) h (some o), s_s S, s_l S, s_c S)
def s_sc (S : St) (f : Nat → Int32) : St := (s_u S, s_o S, s_s S, s_l S, f)
def s_sh (S : St) (f : Nat → Option Nat) : St := (s_u S, s_o S, f, s_l S, s_c S)
def sp_kindOf (S : St) (i : Int32) : Int32 := match obj S (itm S i) with
  | none => -1
  | some o => nI (o_k o)
def sp_length (S : St) (i : Int32) : Int32 := match obj S (itm S i) with
  | none => -1
  | some o => if 7 ≤ o_k o then -2 else nI (o_n o)
def sp_same (S : St) (a b : Int32) : Int32 := match itm S a, itm S b with
  | some h, some h' => if h = h' then 1 else 0
  | _, _ => -1
def sp_count (S : St) (i : Int32) : Int32 := if i = 0 then nI (tkn (s_s S) 400) else if i = 1 then s_c S 1 else if i = 2 then s_c S 0 else if i = 3 then s_c S 5 else if i = 4 then s_c S 6 else -1
def sp_set (S : St) (pl i : Int32) (v : Int64) : Int32 × St := match itm S pl with
  | none => (1, S)
  | some h => match s_o S h with
    | none => (1, S)
    | some o => if ref1 (some o) i 0 3 = 0 then (0, s_put S h (o_setf o (vp_updL (o_f o) i.toNatClampNeg (narK (o_k o) v)))) else (ref1 (some o) i 0 3, S)
def sp_setThing (S : St) (pl i th : Int32) : Int32 × St :=
  if itm S th = none ∧ ¬ th = -1 then (1, S) else match itm S pl with
  | none => (1, S)
  | some h => match s_o S h with
    | none => (1, S)
    | some o => if ref1 (some o) i 4 6 = 0 then (match obj S (itm S th) with
        | none => (0, s_put S h (o_sete o (va_up (o_e o) i.toNatClampNeg (itm S th))))
        | some o' => if (o_k o = 4 ∧ o_k o' = 0) ∨ (o_k o = 5 ∧ (o_k o' = 7 ∨ o_k o' = 8)) ∨ (o_k o = 6 ∧ o_k o' = 8) then (0, s_put S h (o_sete o (va_up (o_e o) i.toNatClampNeg (itm S th)))) else (5, S)) else (ref1 (some o) i 4 6, S)
def sp_get (S : St) (pl i : Int32) : Int64 × St :=
  (match obj S (itm S pl) with
    | none => 0
    | some o => if ref1 (some o) i 0 6 = 0 then (if o_k o ≤ 3 then o_f o i.toNatClampNeg else told (obj S (o_e o i.toNatClampNeg))) else 0, s_sc S (upd (s_c S) 2 (ref1 (obj S (itm S pl)) i 0 6)))
def sp_deep (S : St) (pl i k : Int32) : Int64 × St := match obj S (itm S pl) with
  | none => (0, s_sc S (upd (s_c S) 2 1))
  | some o => if ref1 (some o) i 4 4 = 0 then (match obj S (o_e o i.toNatClampNeg) with
      | none => (0, s_sc S (upd (s_c S) 2 5))
      | some o' => if inE (o_n o') k then (o_f o' k.toNatClampNeg, s_sc S (upd (s_c S) 2 0)) else (0, s_sc S (upd (s_c S) 2 6))) else (0, s_sc S (upd (s_c S) 2 (ref1 (some o) i 4 4)))
def sp_lift (S : St) (pl i : Int32) : Int32 × St := match obj S (itm S pl) with
  | none => (-1, S)
  | some o => if ref1 (some o) i 4 6 = 0 then (match o_e o i.toNatClampNeg with
      | none => (-5, S)
      | some h' => match lowE S with
        | none => (-6, S)
        | some p => (nI p, s_sh S (va_up (s_s S) p (some h')))) else (-(ref1 (some o) i 4 6), S)
def sp_clear (S : St) (pl : Int32) : Int32 × St := match itm S pl with
  | none => (0, S)
  | some _ => (1, s_sh S (va_up (s_s S) pl.toNatClampNeg none))
def s_new (S : St) (p : Nat) (o : Ob) (c : Int32) : St := (s_u S + 1 + o_n o, va_up (s_o S) (s_u S) (some o), va_up (s_s S) p (some (s_u S)), s_l S, upd (s_c S) 1 c)
def sp_row (S : St) (k n : Int32) : Int32 × St :=
  if k < 0 then (-1, S) else if 6 < k then (-1, S) else if 2000 < n then (-2, S) else match lowE S with
  | none => (-2, S)
  | some p => if s_c S 1 < n + 1 then (-2, S) else if n < 0 then (-3, S) else (nI p, s_new S p (k.toNatClampNeg, n.toNatClampNeg, 0, fun _ => 0, fun _ => none) (s_c S 1 - (n + 1)))
def sp_thing (S : St) (k : Nat) (v : Int32) : Int32 × St := match lowE S with
  | none => (-2, S)
  | some p => if s_c S 1 < 1 then (-2, S) else (nI p, s_new S p (k, 0, v, fun _ => 0, fun _ => none) (s_c S 1 - 1))
def sp_plan (S : St) (a i b j n : Int32) : Int32 × St :=
  if 64 ≤ s_c S 0 then (-1, S) else
    (s_c S 0 + 1, (s_u S, s_o S, s_s S, upd (upd (upd (upd (upd (s_l S) ((s_c S 0).toNatClampNeg * 5) a) ((s_c S 0).toNatClampNeg * 5 + 1) i) ((s_c S 0).toNatClampNeg * 5 + 2) b) ((s_c S 0).toNatClampNeg * 5 + 3) j) ((s_c S 0).toNatClampNeg * 5 + 4) n, upd (s_c S) 0 (s_c S 0 + 1)))
/-- an element fits a row of kind k -/
def fitE (S : St) (k : Nat) (r : Option Nat) : Bool := match obj S r with
  | none => true
  | some o => decide ((k = 4 ∧ o_k o = 0) ∨ (k = 5 ∧ (o_k o = 7 ∨ o_k o = 8)) ∨ (k = 6 ∧ o_k o = 8))
/-- how many elements ahead of the first that doesn't fit: of n, from i on -/
def fitN (S : St) (k : Nat) (e : Nat → Option Nat) : Nat → Nat → Nat
  | 0, _ => 0
  | n + 1, i => if fitE S k (e i) then fitN S k e n (i + 1) + 1 else 0
/-- a move's end: (ended, moved, the objects) -/
def mv (S : St) (a i b j n : Int32) : Int32 × Int32 × (Nat → Option Ob) := match itm S a, itm S b with
  | some h, some h' => (match s_o S h, s_o S h' with
    | some o, some o' =>
      if ¬ ref3 (some o) (some o') = 0 then (ref3 (some o) (some o'), 0, s_o S)
      else if ¬ inS (o_n o) i n then (4, 0, s_o S) else if ¬ inS (o_n o') j n then (4, 0, s_o S)
      else if o_k o' ≤ 3 then (0, n, va_up (s_o S) h' (some (o_setf o' (va_cpy (o_f o) (o_f o') i.toNatClampNeg j.toNatClampNeg n.toNatClampNeg))))
      else (if fitN S (o_k o') (o_e o) n.toNatClampNeg i.toNatClampNeg = n.toNatClampNeg then 0 else 5, nI (fitN S (o_k o') (o_e o) n.toNatClampNeg i.toNatClampNeg), va_up (s_o S) h' (some (o_sete o' (va_cpy (o_e o) (o_e o') i.toNatClampNeg j.toNatClampNeg (fitN S (o_k o') (o_e o) n.toNatClampNeg i.toNatClampNeg)))))
    | _, _ => (1, 0, s_o S))
  | _, _ => (1, 0, s_o S)
def mvc (c : Nat → Int32) (r m : Int32) : Nat → Int32 := if r = 0 then upd (upd (upd c 3 m) 4 r) 5 (c 5 + 1) else upd (upd (upd c 3 m) 4 r) 6 (c 6 + 1)
def sp_move (S : St) (a i b j n : Int32) : Int32 × St := ((mv S a i b j n).1, (s_u S, (mv S a i b j n).2.2, s_s S, s_l S, mvc (s_c S) (mv S a i b j n).1 (mv S a i b j n).2.1))
/-- the list from k on, with n left: how many weren't refused in all -/
def runF : Nat → Nat → St → Nat × St
  | 0, k, S => (k, S)
  | n + 1, k, S => if (sp_move S (s_l S (k * 5)) (s_l S (k * 5 + 1)) (s_l S (k * 5 + 2)) (s_l S (k * 5 + 3)) (s_l S (k * 5 + 4))).1 = 0 then runF n (k + 1) (sp_move S (s_l S (k * 5)) (s_l S (k * 5 + 1)) (s_l S (k * 5 + 2)) (s_l S (k * 5 + 3)) (s_l S (k * 5 + 4))).2 else (k, (sp_move S (s_l S (k * 5)) (s_l S (k * 5 + 1)) (s_l S (k * 5 + 2)) (s_l S (k * 5 + 3)) (s_l S (k * 5 + 4))).2)
def sp_run (S : St) : Int32 × St := (nI (runF (s_c S 0).toNatClampNeg 0 S).1, s_sc (runF (s_c S 0).toNatClampNeg 0 S).2 (upd (s_c (runF (s_c S 0).toNatClampNeg 0 S).2) 0 0))
/-- what a digest takes of an element -/
def dgE (S : St) (r : Option Nat) : Int64 := match obj S r with
  | none => 0
  | some o => if o_k o ≤ 3 then dgN o else told (some o)
def dgO (S : St) (k : Nat) (e : Nat → Option Nat) : Nat → Int64
  | 0 => (nI k + 1).toInt64
  | i + 1 => 31 * dgO S k e i + dgE S (e i)
def sp_digest (S : St) (pl : Int32) : Int64 := match obj S (itm S pl) with
  | none => 0
  | some o => if o_k o ≤ 3 then dgN o else if o_k o ≤ 6 then dgO S (o_k o) (o_e o) (o_n o) else 31 * (nI (o_k o) + 1).toInt64 + (o_v o).toInt64
/-! reps behind a change -/
theorem va_up_eq {α : Type} {f : Nat → α} {k : Nat} {v : α} : va_up f k v k = v := va_up_self f k v
theorem ObX.nn {G : Gt} {ad ar : Nat → Nat} {A : Nat → Prop} {ws : va_W} {h h' : Nat} {o o' : Ob} (hD : va_D A ws) (hO : ObX G ad ar ws h o) (hO' : ObX G ad ar ws h' o') (hk : o_k o' ≤ 6) : ad h ≠ ar h' := by
  obtain ⟨dk, kd, q1, -⟩ := hO
  obtain ⟨dk', kd', -, -, q3, q4⟩ := hO'
  by_cases h3 : o_k o' ≤ 3
  · exact hp_ne_of hD q1 (q3 h3) (fun q => by cases q)
  · exact hp_ne_of hD q1 (q4 (by omega) hk) (fun q => by cases q)
/-- the numbers of a row change, its digest is forgotten -/
theorem RpX.num {G : Gt} {x sh li : Nat} {ad ar : Nat → Nat} {S : St} {A : Nat → Prop} {ws ws1 ws2 : va_W} {h : Nat} {o : Ob} {f : Nat → Int64} {kd : Int64} (hD : va_D A ws) (hR : RpX G x sh li ad ar S ws) (ho : s_o S h = some o) (hk : o_k o ≤ 3) (u1 : hu ws (ar h) (aJ G (o_n o) f) ws1) (u2 : hu ws1 (ad h) (.inr (0, [.int (nI (o_n o)), .int (nI (o_k o)), .ref (ar h), .int 0, .long kd])) ws2) : RpX G x sh li ad ar (s_put S h (o_setf o f)) ws2 := by
  obtain ⟨h1, h2, h3, h4, h5, h6⟩ := hR
  have hO := h4 h o ho
  have nx := hO.ne_x hD h1 (Nat.le_refl 3)
  have ni := hO.ne_i hD h3
  have nn := hO.nn hD hO (by omega)
  have n2 : ad h ≠ sh := by
    obtain ⟨dk, kd, q1, -⟩ := hO
    exact hp_ne_of hD q1 h2 (fun q => by cases q)
  refine ⟨u2.keep nx.1.symm (u1.keep (nx.2 (by omega)).symm h1), u2.keep n2.symm (u1.keep (h6 h o ho (by omega)).symm h2), u2.keep ni.1.symm (u1.keep (ni.2 (by omega)).symm h3), fun a oa ha => ?_, fun a a' oa oa' ha ha' hn => ?_, fun a oa ha hka => ?_⟩
  · by_cases hah : a = h
    · subst hah
      have e : oa = o_setf o f := by
        have := ha.symm.trans (va_up_eq (f := s_o S) (k := a) (v := some (o_setf o f)))
        cases this
        rfl
      subst e
      refine ⟨0, kd, ?_, Or.inl rfl, fun _ => u2.keep nn.symm u1.1, fun z => ?_⟩
      · rw [o_num (o := o_setf o f) hk]
        exact u2.1
      · exact absurd (show 4 ≤ o_k o from z) (by omega)
    · have ha0 : s_o S a = some oa := by rw [← ha]; exact (va_up_ne (s_o S) _ hah).symm
      have hO' := h4 a oa ha0
      have hne := h5 a h oa o ha0 ho hah
      refine (hO'.keep u1 (hO'.nn hD hO (by omega)) (fun z => hne.2 z (by omega))).keep u2 hne.1 (fun z => (hO.nn hD hO' z).symm)
  · have key : ∀ {b : Nat} {ob : Ob}, s_o (s_put S h (o_setf o f)) b = some ob → ∃ ob0, s_o S b = some ob0 ∧ o_k ob0 = o_k ob := by
      intro b ob hb
      by_cases hbh : b = h
      · subst hbh
        have := hb.symm.trans (va_up_eq (f := s_o S) (k := b) (v := some (o_setf o f)))
        cases this
        exact ⟨o, ho, rfl⟩
      · exact ⟨ob, by rw [← hb]; exact (va_up_ne (s_o S) _ hbh).symm, rfl⟩
    obtain ⟨o1, g1, g2⟩ := key ha
    obtain ⟨o2, g3, g4⟩ := key ha'
    have := h5 a a' o1 o2 g1 g3 hn
    exact ⟨this.1, fun z z' => this.2 (by omega) (by omega)⟩
  · by_cases hah : a = h
    · subst hah
      exact h6 a o ho (by omega)
    · exact h6 a oa (by rw [← ha]; exact (va_up_ne (s_o S) _ hah).symm) hka
/-- the elements of a row change -/
theorem RpX.els {G : Gt} {x sh li : Nat} {ad ar : Nat → Nat} {S : St} {A : Nat → Prop} {ws ws1 : va_W} {h : Nat} {o : Ob} {f : Nat → Option Nat} {E : va_E} (hD : va_D A ws) (hR : RpX G x sh li ad ar S ws) (ho : s_o S h = some o) (hk : 4 ≤ o_k o) (hk6 : o_k o ≤ 6) (u1 : hu ws (ar h) E ws1) (hE : E = aT G (o_n o) (fun i => (f i).map ad)) : RpX G x sh li ad ar (s_put S h (o_sete o f)) ws1 := by
  subst hE
  obtain ⟨h1, h2, h3, h4, h5, h6⟩ := hR
  have hO := h4 h o ho
  have nx := hO.ne_x hD h1 (Nat.le_refl 3)
  have ni := hO.ne_i hD h3
  have nn := hO.nn hD hO (by omega)
  refine ⟨u1.keep (nx.2 hk6).symm h1, u1.keep (h6 h o ho hk6).symm h2, u1.keep (ni.2 hk6).symm h3, fun a oa ha => ?_, fun a a' oa oa' ha ha' hn => ?_, fun a oa ha hka => ?_⟩
  · by_cases hah : a = h
    · subst hah
      have e : oa = o_sete o f := by
        have := ha.symm.trans (va_up_eq (f := s_o S) (k := a) (v := some (o_sete o f)))
        cases this
        rfl
      subst e
      obtain ⟨dk, kd, q1, q2, q3, q4⟩ := hO
      refine ⟨0, kd, ?_, Or.inl rfl, fun z => ?_, fun _ _ => u1.1⟩
      · rw [o_obj (o := o_sete o f) hk hk6]
        rw [o_obj hk hk6] at q1
        exact u1.keep nn q1
      · exact absurd (show o_k o ≤ 3 from z) (by omega)
    · have ha0 : s_o S a = some oa := by rw [← ha]; exact (va_up_ne (s_o S) _ hah).symm
      have hO' := h4 a oa ha0
      have hne := h5 a h oa o ha0 ho hah
      exact hO'.keep u1 (hO'.nn hD hO hk6) (fun z => hne.2 z hk6)
  · have key : ∀ {b : Nat} {ob : Ob}, s_o (s_put S h (o_sete o f)) b = some ob → ∃ ob0, s_o S b = some ob0 ∧ o_k ob0 = o_k ob := by
      intro b ob hb
      by_cases hbh : b = h
      · subst hbh
        have := hb.symm.trans (va_up_eq (f := s_o S) (k := b) (v := some (o_sete o f)))
        cases this
        exact ⟨o, ho, rfl⟩
      · exact ⟨ob, by rw [← hb]; exact (va_up_ne (s_o S) _ hbh).symm, rfl⟩
    obtain ⟨o1, g1, g2⟩ := key ha
    obtain ⟨o2, g3, g4⟩ := key ha'
    have := h5 a a' o1 o2 g1 g3 hn
    exact ⟨this.1, fun z z' => this.2 (by omega) (by omega)⟩
  · by_cases hah : a = h
    · subst hah
      exact h6 a o ho hk6
    · exact h6 a oa (by rw [← ha]; exact (va_up_ne (s_o S) _ hah).symm) hka
/-- a digest is kept -/
theorem RpX.dig {G : Gt} {x sh li : Nat} {ad ar : Nat → Nat} {S : St} {A : Nat → Prop} {ws ws1 : va_W} {h : Nat} {o : Ob} (hD : va_D A ws) (hR : RpX G x sh li ad ar S ws) (ho : s_o S h = some o) (hk : o_k o ≤ 3) (u1 : hu ws (ad h) (.inr (0, [.int (nI (o_n o)), .int (nI (o_k o)), .ref (ar h), .int 1, .long (dgN o)])) ws1) : RpX G x sh li ad ar S ws1 := by
  obtain ⟨h1, h2, h3, h4, h5, h6⟩ := hR
  have hO := h4 h o ho
  have nx := hO.ne_x hD h1 (Nat.le_refl 3)
  have ni := hO.ne_i hD h3
  have nn := hO.nn hD hO (by omega)
  have n2 : ad h ≠ sh := by
    obtain ⟨dk, kd, q1, -⟩ := hO
    exact hp_ne_of hD q1 h2 (fun q => by cases q)
  refine ⟨u1.keep nx.1.symm h1, u1.keep n2.symm h2, u1.keep ni.1.symm h3, fun a oa ha => ?_, h5, h6⟩
  by_cases hah : a = h
  · subst hah
    have e : oa = o := by rw [ho] at ha; cases ha; rfl
    subst e
    obtain ⟨dk, kd, q1, q2, q3, q4⟩ := hO
    refine ⟨1, dgN oa, ?_, Or.inr ⟨rfl, rfl⟩, fun z => u1.keep nn.symm (q3 z), fun z => absurd z (by omega)⟩
    rw [o_num hk]
    exact u1.1
  · have hne := h5 a h oa o ha ho hah
    exact (h4 a oa ha).keep u1 hne.1 (fun z => (hO.nn hD (h4 a oa ha) z).symm)
