/-! moves: what is needed of the numbers -/
theorem fitN_le {S : St} {k : Nat} {e : Nat → Option Nat} : ∀ {n i : Nat}, fitN S k e n i ≤ n
  | 0, i => Nat.le_refl _
  | n + 1, i => by
    unfold fitN
    split
    · have := fitN_le (S := S) (k := k) (e := e) (n := n) (i := i + 1)
      omega
    · omega
theorem fitN_lt {S : St} {k : Nat} {e : Nat → Option Nat} : ∀ {n i t : Nat}, t < fitN S k e n i → fitE S k (e (i + t)) = true
  | 0, i, t, h => by simp [fitN] at h
  | n + 1, i, t, h => by
    unfold fitN at h
    split at h
    · cases t with
      | zero => assumption
      | succ t =>
        have := fitN_lt (S := S) (k := k) (e := e) (n := n) (i := i + 1) (t := t) (by omega)
        rw [show i + (t + 1) = i + 1 + t by omega]
        exact this
    · omega
theorem fitN_step {S : St} {k : Nat} {e : Nat → Option Nat} {n i t : Nat} (ht : t < n) (h : fitE S k (e (i + t)) = true) : t + fitN S k e (n - t) (i + t) = (t + 1) + fitN S k e (n - (t + 1)) (i + (t + 1)) := by
  obtain ⟨m, hm⟩ : ∃ m, n - t = m + 1 := ⟨n - t - 1, by omega⟩
  have hm' : n - (t + 1) = m := by omega
  rw [hm, hm']
  have e1 : fitN S k e (m + 1) (i + t) = fitN S k e m (i + t + 1) + 1 := by
    rw [fitN]
    simp [h]
  rw [e1, show i + (t + 1) = i + t + 1 by omega]
  omega
theorem fitN_stop {S : St} {k : Nat} {e : Nat → Option Nat} {n i t : Nat} (ht : t < n) (h : fitE S k (e (i + t)) = false) : t + fitN S k e (n - t) (i + t) = t := by
  obtain ⟨m, hm⟩ : ∃ m, n - t = m + 1 := ⟨n - t - 1, by omega⟩
  rw [hm, fitN]
  simp [h]
/-- the part of a move behind its first three reasons -/
def mvR (S : St) (h' : Nat) (o o' : Ob) (i j n : Int32) : Int32 × Int32 × (Nat → Option Ob) :=
  if ¬ inS (o_n o) i n then (4, 0, s_o S) else if ¬ inS (o_n o') j n then (4, 0, s_o S)
  else if o_k o' ≤ 3 then (0, n, va_up (s_o S) h' (some (o_setf o' (va_cpy (o_f o) (o_f o') i.toNatClampNeg j.toNatClampNeg n.toNatClampNeg))))
  else (if fitN S (o_k o') (o_e o) n.toNatClampNeg i.toNatClampNeg = n.toNatClampNeg then 0 else 5, nI (fitN S (o_k o') (o_e o) n.toNatClampNeg i.toNatClampNeg), va_up (s_o S) h' (some (o_sete o' (va_cpy (o_e o) (o_e o') i.toNatClampNeg j.toNatClampNeg (fitN S (o_k o') (o_e o) n.toNatClampNeg i.toNatClampNeg)))))
theorem mv_no {S : St} {a i b j n : Int32} (h : ¬ ref3 (obj S (itm S a)) (obj S (itm S b)) = 0) (hI : Inv S) : mv S a i b j n = (ref3 (obj S (itm S a)) (obj S (itm S b)), 0, s_o S) := by
  unfold mv
  cases ha : itm S a with
  | none => simp [obj, ref3]
  | some x =>
    cases hb : itm S b with
    | none => simp [obj, ref3]
    | some y =>
      obtain ⟨o, ho⟩ := itm_o hI ha
      obtain ⟨o', ho'⟩ := itm_o hI hb
      have e1 : obj S (some x) = some o := ho
      have e2 : obj S (some y) = some o' := ho'
      rw [ha, hb, e1, e2] at h
      rw [e1, e2]
      simp [ho, ho', h]
theorem mv_ok {S : St} {a i b j n : Int32} {x y : Nat} {o o' : Ob} (ha : itm S a = some x) (hb : itm S b = some y) (ho : s_o S x = some o) (ho' : s_o S y = some o') (h : ref3 (some o) (some o') = 0) : mv S a i b j n = mvR S y o o' i j n := by
  unfold mv mvR
  simp [ha, hb, ho, ho', h]
theorem inS_nI {n : Nat} {i k : Int32} (h : inS n i k) (hn : n ≤ 2000) : ∃ i' k' : Nat, i = nI i' ∧ k = nI k' ∧ i' + k' ≤ n := by
  obtain ⟨h1, h2, h3⟩ := h
  obtain ⟨i', g1, rfl⟩ := nI_of h1
  obtain ⟨k', g2, rfl⟩ := nI_of h2
  rw [nI_toInt g1, nI_toInt g2] at h3
  exact ⟨i', k', rfl, rfl, by omega⟩
theorem upd_same {f : Nat → Int32} {k : Nat} {v : Int32} (h : f k = v) : upd f k v = f := by
  funext j
  by_cases hj : j = k
  · subst hj; rw [pk_us, h]
  · rw [pk_un hj]
theorem upd_43 {c : Nat → Int32} {m r a b : Int32} : upd (upd (upd (upd c 3 a) 4 b) 3 m) 4 r = upd (upd c 3 m) 4 r := by
  funext j
  by_cases h4 : j = 4
  · subst h4; rw [pk_us, pk_us]
  · rw [pk_un h4, pk_un h4]
    by_cases h3 : j = 3
    · subst h3; rw [pk_us, pk_us]
    · rw [pk_un h3, pk_un h4, pk_un h3, pk_un h3]
/-! what holds of a state goes on -/
theorem Inv.put {S : St} (hI : Inv S) {h : Nat} {o o2 : Ob} (ho : s_o S h = some o) (hk : o_k o2 = o_k o) (hn : o_n o2 = o_n o) (he : 4 ≤ o_k o → o_k o ≤ 6 → ∀ i h', o_e o2 i = some h' → ∃ o', s_o S h' = some o' ∧ fitK (o_k o) (o_k o')) : Inv (s_put S h o2) := by
  obtain ⟨g1, g2, g3, g4, g5, g6, g7⟩ := hI
  have key : ∀ {b : Nat} {ob : Ob}, s_o (s_put S h o2) b = some ob → ∃ ob0, s_o S b = some ob0 ∧ o_k ob = o_k ob0 ∧ o_n ob = o_n ob0 := by
    intro b ob hb
    by_cases hbh : b = h
    · subst hbh
      have := hb.symm.trans (va_up_eq (f := s_o S) (k := b) (v := some o2))
      cases this
      exact ⟨o, ho, hk, hn⟩
    · exact ⟨ob, by rw [← hb]; exact (va_up_ne (s_o S) _ hbh).symm, rfl, rfl⟩
  have kay : ∀ {b : Nat} {ob : Ob}, s_o S b = some ob → ∃ ob1, s_o (s_put S h o2) b = some ob1 ∧ o_k ob1 = o_k ob := by
    intro b ob hb
    by_cases hbh : b = h
    · subst hbh
      rw [ho] at hb
      cases hb
      exact ⟨o2, va_up_eq (f := s_o S), hk⟩
    · exact ⟨ob, by rw [← hb]; exact va_up_ne (s_o S) _ hbh, rfl⟩
  refine ⟨g1, g2, g3, fun a oa ha => ?_, fun a a' oa oa' ha ha' hl => ?_, fun i a hi => ?_, fun a oa ha k4 k6 i a' hi => ?_⟩
  · obtain ⟨o0, q1, q2, q3⟩ := key ha
    have := g4 a o0 q1
    rw [q2, q3]
    exact this
  · obtain ⟨o0, q1, q2, q3⟩ := key ha
    obtain ⟨o0', q1', -⟩ := key ha'
    rw [q3]
    exact g5 a a' o0 o0' q1 q1' hl
  · obtain ⟨o0, q1⟩ := g6 i a hi
    obtain ⟨o1, q2, -⟩ := kay q1
    exact ⟨o1, q2⟩
  · have : ∃ o0', s_o S a' = some o0' ∧ fitK (o_k oa) (o_k o0') := by
      by_cases hah : a = h
      · subst hah
        have := ha.symm.trans (va_up_eq (f := s_o S) (k := a) (v := some o2))
        cases this
        rw [hk] at k4 k6 ⊢
        exact he k4 k6 i a' hi
      · have ha0 : s_o S a = some oa := by rw [← ha]; exact (va_up_ne (s_o S) _ hah).symm
        exact g7 a oa ha0 k4 k6 i a' hi
    obtain ⟨o0', q1, q2⟩ := this
    obtain ⟨o1, q3, q4⟩ := kay q1
    exact ⟨o1, q3, by rw [q4]; exact q2⟩
theorem fitE_K {S : St} {k h : Nat} {o : Ob} (hk : 4 ≤ k) (hk6 : k ≤ 6) (ho : s_o S h = some o) (hf : fitE S k (some h) = true) : fitK k (o_k o) := by
  unfold fitE at hf
  rw [show obj S (some h) = some o from ho] at hf
  exact (fitK_iff hk hk6).mpr (of_decide_eq_true hf)
theorem ref3_zero {o o' : Ob} (h : ref3 (some o) (some o') = 0) : o_k o ≤ 6 ∧ o_k o' ≤ 6 ∧ ((4 ≤ o_k o ∧ 4 ≤ o_k o') ∨ o_k o = o_k o') := by
  unfold ref3 at h
  by_cases h1 : 7 ≤ o_k o
  · simp [h1] at h
  · by_cases h2 : 7 ≤ o_k o'
    · simp [h1, h2] at h
    · by_cases h3 : (4 ≤ o_k o ∧ 4 ≤ o_k o') ∨ o_k o = o_k o'
      · exact ⟨by omega, by omega, h3⟩
      · simp [h1, h2, h3] at h
theorem inv_mvR {S : St} (hI : Inv S) {x y : Nat} {o o' : Ob} (ho : s_o S x = some o) (ho' : s_o S y = some o') (h3 : ref3 (some o) (some o') = 0) (i j n : Int32) : Inv (s_u S, (mvR S y o o' i j n).2.2, s_s S, s_l S, s_c S) := by
  unfold mvR
  by_cases h1 : inS (o_n o) i n
  · rw [if_neg (fun q => q h1)]
    by_cases h2 : inS (o_n o') j n
    · rw [if_neg (fun q => q h2)]
      by_cases hk : o_k o' ≤ 3
      · rw [if_pos hk]
        exact hI.put ho' (o2 := o_setf o' _) rfl rfl (fun k4 k6 t h hi => hI.2.2.2.2.2.2 y o' ho' k4 k6 t h hi)
      · rw [if_neg hk]
        refine hI.put ho' (o2 := o_sete o' _) rfl rfl (fun k4 k6 t h hi => ?_)
        have hz := ref3_zero h3
        have hi : va_cpy (o_e o) (o_e o') i.toNatClampNeg j.toNatClampNeg (fitN S (o_k o') (o_e o) n.toNatClampNeg i.toNatClampNeg) t = some h := hi
        by_cases hr : j.toNatClampNeg ≤ t ∧ t < j.toNatClampNeg + fitN S (o_k o') (o_e o) n.toNatClampNeg i.toNatClampNeg
        · rw [pk_cpy_in hr.1 hr.2] at hi
          obtain ⟨o1, g1⟩ := hI.el ho (by omega) (by omega) _ h hi
          have hf := fitN_lt (S := S) (k := o_k o') (e := o_e o) (n := n.toNatClampNeg) (i := i.toNatClampNeg) (t := t - j.toNatClampNeg) (by omega)
          rw [hi] at hf
          exact ⟨o1, g1, fitE_K k4 k6 g1 hf⟩
        · rw [pk_cpy_out (by omega)] at hi
          exact hI.2.2.2.2.2.2 y o' ho' k4 k6 t h hi
    · rw [if_pos h2]
      exact hI
  · rw [if_pos h1]
    exact hI
theorem inv_move {S : St} (hI : Inv S) (a i b j n : Int32) : Inv (sp_move S a i b j n).2 := by
  have key : ∀ (r m : Int32), (mvc (s_c S) r m) 0 = s_c S 0 ∧ (mvc (s_c S) r m) 1 = s_c S 1 := by
    intro r m
    unfold mvc
    split <;> exact ⟨rfl, rfl⟩
  have main : Inv (s_u S, (mv S a i b j n).2.2, s_s S, s_l S, s_c S) := by
    by_cases h : ref3 (obj S (itm S a)) (obj S (itm S b)) = 0
    · cases ha : itm S a with
      | none => rw [ha] at h; simp [obj, ref3] at h
      | some x =>
        cases hb : itm S b with
        | none => rw [ha, hb] at h; simp [obj, ref3] at h
        | some y =>
          obtain ⟨o, ho⟩ := itm_o hI ha
          obtain ⟨o', ho'⟩ := itm_o hI hb
          rw [obj_some ha ho, obj_some hb ho'] at h
          rw [mv_ok ha hb ho ho' h]
          exact inv_mvR hI ho ho' h i j n
    · rw [mv_no h hI]
      exact hI
  exact main.sc _ (key _ _).1 (key _ _).2
theorem u_refusalOfRows (l : Launch) {G : Gt} {ws : va_W} (sz : Nat) {x sh li : Nat} {ad ar : Nat → Nat} {S : St} (hR : RpX G x sh li ad ar S ws) (hI : Inv S) (r r9 : Option Nat) (hv : okr S r) (hv9 : okr S r9) : Met l yX5_refusalOfRows wsX5_refusalOfRows ({ frames := 0, cells := 0, slots := 0, locals := 0 } : Room) (Pw G [va_rf (r.map ad), va_rf (r9.map ad)] ws sz) (vp_Si (fun z : Int32 => z = ref3 (obj S r) (obj S r9))) 0 0 (fun _ => False) := by
  cases r with
  | none =>
    have e : ref3 (obj S none) (obj S r9) = 1 := by simp [obj, ref3]
    rw [e]
    cases r9 with
    | none => exact c_refusalOfRows_NN l sz
    | some h9 => exact c_refusalOfRows_NS l sz (ad h9)
  | some h =>
    obtain ⟨o, ho⟩ := hv h rfl
    have hk8 := (hI.ob ho).1
    cases r9 with
    | none =>
      have e : ref3 (obj S (some h)) (obj S none) = 1 := by
        rw [show obj S (some h) = some o from ho]
        simp [obj, ref3]
      rw [e]
      exact c_refusalOfRows_M l sz (ad h)
    | some h9 =>
      obtain ⟨o9, ho9⟩ := hv9 h9 rfl
      have hk9 := (hI.ob ho9).1
      have e : ref3 (obj S (some h)) (obj S (some h9)) = if 7 ≤ o_k o then 2 else if 7 ≤ o_k o9 then 2 else if (4 ≤ o_k o ∧ 4 ≤ o_k o9) ∨ o_k o = o_k o9 then 0 else 3 := by
        rw [show obj S (some h) = some o from ho, show obj S (some h9) = some o9 from ho9]
        rfl
      rw [e]
      obtain ⟨dk, kd, q1, -⟩ := hR.2.2.2.1 h o ho
      obtain ⟨dk9, kd9, p1, -⟩ := hR.2.2.2.1 h9 o9 ho9
      rcases (show o_k o ≤ 3 ∨ (4 ≤ o_k o ∧ o_k o ≤ 6) ∨ 7 ≤ o_k o by omega) with hk | ⟨hk, hm⟩ | hk <;> rcases (show o_k o9 ≤ 3 ∨ (4 ≤ o_k o9 ∧ o_k o9 ≤ 6) ∨ 7 ≤ o_k o9 by omega) with h0 | ⟨h0, h6⟩ | h0
      · rw [o_num hk] at q1; rw [o_num h0] at p1
        exact c_refusalOfRows_00 l sz q1 hk p1 h0
      · rw [o_num hk] at q1; rw [o_obj h0 h6] at p1
        exact c_refusalOfRows_01 l sz q1 hk p1 h0 h6
      · rw [o_num hk] at q1; rw [o_thg h0] at p1
        exact c_refusalOfRows_02 l sz q1 hk p1 h0 hk9
      · rw [o_obj hk hm] at q1; rw [o_num h0] at p1
        exact c_refusalOfRows_10 l sz q1 hk hm p1 h0
      · rw [o_obj hk hm] at q1; rw [o_obj h0 h6] at p1
        exact c_refusalOfRows_11 l sz q1 hk hm p1 h0 h6
      · rw [o_obj hk hm] at q1; rw [o_thg h0] at p1
        exact c_refusalOfRows_12 l sz q1 hk hm p1 h0 hk9
      · rw [o_thg hk] at q1; rw [o_num h0] at p1
        exact c_refusalOfRows_20 l sz q1 hk hk8 p1 h0
      · rw [o_thg hk] at q1; rw [o_obj h0 h6] at p1
        exact c_refusalOfRows_21 l sz q1 hk hk8 p1 h0 h6
      · rw [o_thg hk] at q1; rw [o_thg h0] at p1
        exact c_refusalOfRows_22 l sz q1 hk hk8 p1 h0 hk9
