/-! what holds of a state holds behind every call -/
theorem inv_sh {S : St} (hI : Inv S) {s2 : Nat → Option Nat} (h : ∀ i h, s2 i = some h → ∃ o, s_o S h = some o) : Inv (s_sh S s2) := by
  obtain ⟨g1, g2, g3, g4, g5, g6, g7⟩ := hI
  exact ⟨g1, g2, g3, g4, g5, h, g7⟩
theorem inv_up {S : St} (hI : Inv S) {p : Nat} {r : Option Nat} (hr : okr S r) : Inv (s_sh S (va_up (s_s S) p r)) := by
  refine inv_sh hI (fun i h hi => ?_)
  by_cases hip : i = p
  · subst hip
    rw [va_up_self] at hi
    exact hr h hi
  · rw [va_up_ne _ _ hip] at hi
    exact hI.2.2.2.2.2.1 i h hi
theorem inv_set {S : St} (hI : Inv S) (pl i : Int32) (v : Int64) : Inv (sp_set S pl i v).2 := by
  cases hi : itm S pl with
  | none => rw [show sp_set S pl i v = (1, S) from by simp [sp_set, hi]]; exact hI
  | some h =>
    obtain ⟨o, ho⟩ := itm_o hI hi
    by_cases hr : ref1 (some o) i 0 3 = 0
    · rw [show sp_set S pl i v = (0, s_put S h (o_setf o (vp_updL (o_f o) i.toNatClampNeg (narK (o_k o) v)))) from by simp [sp_set, hi, ho, hr]]
      exact hI.put (o2 := o_setf o _) ho rfl rfl (fun k4 k6 t h' ht => hI.2.2.2.2.2.2 h o ho k4 k6 t h' ht)
    · rw [show sp_set S pl i v = (ref1 (some o) i 0 3, S) from by simp [sp_set, hi, ho, hr]]
      exact hI
theorem inv_setThing {S : St} (hI : Inv S) (pl i th : Int32) : Inv (sp_setThing S pl i th).2 := by
  by_cases hn : itm S th = none ∧ ¬ th = -1
  · rw [st_1 hn.1 hn.2]; exact hI
  · cases hi : itm S pl with
    | none => rw [st_N hi]; exact hI
    | some h =>
      obtain ⟨o, ho⟩ := itm_o hI hi
      by_cases hr : ref1 (some o) i 4 6 = 0
      · obtain ⟨k4, k6, -, -⟩ := ref1_zero (a := 4) (b := 6) hr (by decide) (by decide) (hI.ob ho).1
        cases hf : fitE S (o_k o) (itm S th) with
        | false => rw [st_bad hn hi ho hr hf]; exact hI
        | true =>
          rw [st_ok hn hi ho hr hf]
          refine hI.put (o2 := o_sete o _) ho rfl rfl (fun _ _ t h' ht => ?_)
          have ht : va_up (o_e o) i.toNatClampNeg (itm S th) t = some h' := ht
          by_cases hti : t = i.toNatClampNeg
          · subst hti
            rw [va_up_self] at ht
            obtain ⟨o', ho'⟩ := itm_o hI ht
            rw [ht] at hf
            exact ⟨o', ho', fitE_K k4 k6 ho' hf⟩
          · rw [va_up_ne _ _ hti] at ht
            exact hI.2.2.2.2.2.2 h o ho k4 k6 t h' ht
      · rw [st_no hn hi ho hr]; exact hI
theorem inv_get {S : St} (hI : Inv S) (pl i : Int32) : Inv (sp_get S pl i).2 := hI.sc _ rfl rfl
theorem inv_deep {S : St} (hI : Inv S) (pl i k : Int32) : Inv (sp_deep S pl i k).2 := by
  unfold sp_deep
  split
  · exact hI.sc _ rfl rfl
  · split
    · split
      · exact hI.sc _ rfl rfl
      · split <;> exact hI.sc _ rfl rfl
    · exact hI.sc _ rfl rfl
theorem inv_lift {S : St} (hI : Inv S) (pl i : Int32) : Inv (sp_lift S pl i).2 := by
  unfold sp_lift
  cases hq : obj S (itm S pl) with
  | none => exact hI
  | some o =>
    simp only []
    by_cases hr : ref1 (some o) i 4 6 = 0
    · rw [if_pos hr]
      cases hi : itm S pl with
      | none => rw [hi] at hq; cases hq
      | some h =>
        rw [hi] at hq
        have ho : s_o S h = some o := hq
        obtain ⟨k4, k6, -, -⟩ := ref1_zero (a := 4) (b := 6) hr (by decide) (by decide) (hI.ob ho).1
        cases he : o_e o i.toNatClampNeg with
        | none => exact hI
        | some h' =>
          simp only []
          cases hl : lowE S with
          | none => exact hI
          | some p => exact inv_up hI (fun z hz => by cases hz; exact hI.el ho k4 k6 _ h' he)
    · rw [if_neg hr]; exact hI
theorem inv_clear {S : St} (hI : Inv S) (pl : Int32) : Inv (sp_clear S pl).2 := by
  unfold sp_clear
  split
  · exact hI
  · exact inv_up hI (fun z hz => by cases hz)
theorem inv_new {S : St} (hI : Inv S) {p : Nat} {o : Ob} {c : Int32} (hk : o_k o ≤ 8) (hn : o_n o ≤ 2000) (hu6 : s_u S + 1 + o_n o ≤ 60000) (he : o_e o = fun _ => none) (hc : c = nI (60000 - (s_u S + 1 + o_n o))) : Inv (s_new S p o c) := by
  obtain ⟨g1, g2, g3, g4, g5, g6, g7⟩ := hI
  have old : ∀ {h : Nat} {oh : Ob}, s_o (s_new S p o c) h = some oh → (h = s_u S ∧ oh = o) ∨ s_o S h = some oh := by
    intro h oh hh
    by_cases hu0 : h = s_u S
    · subst hu0
      have := hh.symm.trans (va_up_eq (f := s_o S) (k := s_u S) (v := some o))
      cases this
      exact Or.inl ⟨rfl, rfl⟩
    · exact Or.inr (by rw [← hh]; exact (va_up_ne (s_o S) _ hu0).symm)
  have kay : ∀ {h : Nat} {oh : Ob}, s_o S h = some oh → s_o (s_new S p o c) h = some oh := by
    intro h oh hh
    have := (g4 h oh hh).2.2
    show va_up (s_o S) (s_u S) (some o) h = some oh
    rw [va_up_ne _ _ (by omega)]
    exact hh
  refine ⟨hu6, hc, g3, fun h oh hh => ?_, fun h h' oh oh' hh hh' hl => ?_, fun i h hi => ?_, fun h oh hh k4 k6 i h' hi => ?_⟩
  · show _ ∧ _ ∧ _ ≤ s_u S + 1 + o_n o
    rcases old hh with ⟨e1, e2⟩ | g
    · subst e1; subst e2
      exact ⟨hk, hn, Nat.le_refl _⟩
    · have := g4 h oh g
      exact ⟨this.1, this.2.1, by omega⟩
  · rcases old hh with ⟨e1, e2⟩ | g
    · rcases old hh' with ⟨e3, e4⟩ | g'
      · omega
      · have := (g4 h' oh' g').2.2
        omega
    · rcases old hh' with ⟨e3, e4⟩ | g'
      · have := (g4 h oh g).2.2
        omega
      · exact g5 h h' oh oh' g g' hl
  · have hi : va_up (s_s S) p (some (s_u S)) i = some h := hi
    by_cases hip : i = p
    · subst hip
      rw [va_up_self] at hi
      cases hi
      exact ⟨o, va_up_eq (f := s_o S)⟩
    · rw [va_up_ne _ _ hip] at hi
      obtain ⟨oh, g⟩ := g6 i h hi
      exact ⟨oh, kay g⟩
  · rcases old hh with ⟨e1, e2⟩ | g
    · subst e2
      rw [he] at hi
      cases hi
    · obtain ⟨o', q1, q2⟩ := g7 h oh g k4 k6 i h' hi
      exact ⟨o', kay q1, q2⟩
theorem inv_thing {S : St} (hI : Inv S) {k : Nat} (hk : k ≤ 8) (v : Int32) : Inv (sp_thing S k v).2 := by
  unfold sp_thing
  cases hl : lowE S with
  | none => exact hI
  | some p =>
    simp only []
    by_cases hc : s_c S 1 < 1
    · rw [if_pos hc]; exact hI
    · rw [if_neg hc]
      have hu : ¬ s_u S = 60000 := fun q => hc (by rw [hI.2.1, q]; decide)
      have h1 := hI.1
      refine inv_new hI (o := (k, 0, v, fun _ => 0, fun _ => none)) hk (Nat.zero_le _) (show s_u S + 1 + 0 ≤ 60000 by omega) rfl ?_
      rw [hI.2.1]
      show nI (60000 - s_u S) - 1 = nI (60000 - (s_u S + 1 + 0))
      rw [show nI (60000 - s_u S) - 1 = nI (60000 - s_u S - 1) from pk_sub (b := 1) (by omega)]
      congr 1
theorem inv_row {S : St} (hI : Inv S) (k n : Int32) : Inv (sp_row S k n).2 := by
  unfold sp_row
  by_cases h1 : k < 0
  · rw [if_pos h1]; exact hI
  · rw [if_neg h1]
    by_cases h2 : 6 < k
    · rw [if_pos h2]; exact hI
    · rw [if_neg h2]
      by_cases h3 : 2000 < n
      · rw [if_pos h3]; exact hI
      · rw [if_neg h3]
        cases hl : lowE S with
        | none => exact hI
        | some p =>
          simp only []
          by_cases h4 : s_c S 1 < n + 1
          · rw [if_pos h4]; exact hI
          · rw [if_neg h4]
            by_cases h5 : n < 0
            · rw [if_pos h5]; exact hI
            · rw [if_neg h5]
              obtain ⟨k', a1, rfl⟩ := nI_of h1
              obtain ⟨n', a2, rfl⟩ := nI_of h5
              have b1 : ¬ 6 < k' := fun q => h2 ((nI_ltI (a := 6) (by decide) a1).mpr q)
              have b2 : ¬ 2000 < n' := fun q => h3 ((nI_ltI (a := 2000) (by decide) a2).mpr q)
              have h6 := hI.1
              have b3 : n' < 60000 - s_u S := by
                have := Decidable.not_not.mp (fun q => h4 ((lt_succ h3).mpr q))
                rw [hI.2.1] at this
                exact (nI_ltI a2 (by omega)).mp this
              rw [nI_clamp a1, nI_clamp a2]
              refine inv_new hI (o := (k', n', 0, fun _ => 0, fun _ => none)) (show k' ≤ 8 by omega) (show n' ≤ 2000 by omega) (show s_u S + 1 + n' ≤ 60000 by omega) rfl ?_
              rw [hI.2.1, nI_1]
              show nI (60000 - s_u S) - nI (n' + 1) = nI (60000 - (s_u S + 1 + n'))
              rw [pk_sub (by omega)]
              congr 1
              omega
theorem inv_plan {S : St} (hI : Inv S) (a i b j n : Int32) : Inv (sp_plan S a i b j n).2 := by
  unfold sp_plan
  by_cases h : 64 ≤ s_c S 0
  · rw [if_pos h]; exact hI
  · rw [if_neg h]
    obtain ⟨g1, g2, ⟨k, g3, g4⟩, g5⟩ := hI
    refine ⟨g1, g2, ⟨k + 1, ?_, ?_⟩, g5⟩
    · rw [g4] at h
      have : ¬ 64 ≤ k := fun q => h ((nI_leI (a := 64) (by decide) (by omega)).mpr q)
      omega
    · show s_c S 0 + 1 = nI (k + 1)
      rw [g4]
      exact nI_1 k
theorem inv_runF : ∀ (n k : Nat) {S : St}, Inv S → Inv (runF n k S).2
  | 0, k, S, hI => hI
  | n + 1, k, S, hI => by
    rw [runF]
    split
    · exact inv_runF n (k + 1) (inv_move hI _ _ _ _ _)
    · exact inv_move hI _ _ _ _ _
theorem inv_run {S : St} (hI : Inv S) : Inv (sp_run S).2 := by
  have h := inv_runF (s_c S 0).toNatClampNeg 0 hI
  unfold sp_run
  obtain ⟨g1, g2, g3, g4⟩ := h
  exact ⟨g1, g2, ⟨0, by decide, rfl⟩, g4⟩
