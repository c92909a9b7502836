/-! methods that take an Item, whatever it is -/
theorem fitK_iff {k k' : Nat} (hk : 4 ≤ k) (hk6 : k ≤ 6) : fitK k k' ↔ (k = 4 ∧ k' = 0) ∨ (k = 5 ∧ (k' = 7 ∨ k' = 8)) ∨ (k = 6 ∧ k' = 8) := by
  unfold fitK
  rcases (show k = 4 ∨ k = 5 ∨ k = 6 by omega) with rfl | rfl | rfl <;> simp
theorem Met.mono {l : Launch} {y : MethodName} {ws : List Cond} {rm : Room} {Pc : Array Value → State → Prop} {Qc Qc' : Array Value → State → Outcome → State → Prop} {mc ms : Nat} {free : Addr → Prop} (hM : Met l y ws rm Pc Qc mc ms free) (h : ∀ a st o t, Qc a st o t → Qc' a st o t) : Met l y ws rm Pc Qc' mc ms free := fun p e ha hc hk s m args below hf h1 hP hT => by
  obtain ⟨k, o, g1, g2, g3, hQ, hF⟩ := hM p e ha hc hk s m args below hf h1 hP hT
  exact ⟨k, o, g1, g2, g3, h _ _ _ _ hQ, hF⟩
def okr (S : St) (r : Option Nat) : Prop := ∀ h, r = some h → ∃ o, s_o S h = some o
theorem Inv.el {S : St} (hI : Inv S) {h : Nat} {o : Ob} (ho : s_o S h = some o) (hk : 4 ≤ o_k o) (hk6 : o_k o ≤ 6) (i : Nat) : okr S (o_e o i) := fun h' hh => by
  obtain ⟨o', g1, -⟩ := hI.2.2.2.2.2.2 h o ho hk hk6 i h' hh
  exact ⟨o', g1⟩
theorem Inv.it {S : St} (hI : Inv S) (i : Int32) : okr S (itm S i) := fun h hh => itm_o hI hh
section UNI
variable {G : Gt} {ws : va_W} {x sh li : Nat} {ad ar : Nat → Nat} {S : St}
theorem u_toldAs (l : Launch) (sz : Nat) (hR : RpX G x sh li ad ar S ws) (hI : Inv S) (r : Option Nat) (hv : okr S r) : Met l yX5_toldAs wsX5_toldAs ({ frames := 0, cells := 0, slots := 0, locals := 0 } : Room) (Pw G [va_rf (r.map ad)] ws sz) (vp_Sl (fun z : Int64 => z = told (obj S r))) 0 0 (fun _ => False) := by
  cases r with
  | none => exact c_toldAs_N l sz
  | some h =>
    obtain ⟨o, ho⟩ := hv h rfl
    have hk8 := (hI.ob ho).1
    have e : obj S (some h) = some o := ho
    rw [e]
    obtain ⟨dk, kd, q1, q2, q3, q4⟩ := hR.2.2.2.1 h o ho
    rcases (show o_k o ≤ 3 ∨ (4 ≤ o_k o ∧ o_k o ≤ 6) ∨ 7 ≤ o_k o by omega) with hk | ⟨hk, hm⟩ | hk
    · rw [o_num hk] at q1
      have e2 : told (some o) = (nI (o_n o)).toInt64 := by simp [told, show ¬ 7 ≤ o_k o by omega]
      rw [e2]
      exact c_toldAs_0 l sz q1
    · rw [o_obj hk hm] at q1
      have e2 : told (some o) = (nI (o_n o)).toInt64 := by simp [told, show ¬ 7 ≤ o_k o by omega]
      rw [e2]
      exact c_toldAs_1 l sz q1
    · rw [o_thg hk] at q1
      have e2 : told (some o) = (nI (o_k o)).toInt64 * 4294967296 + ((o_v o).toInt64 &&& 4294967295) := by simp [told, hk]
      rw [e2]
      exact c_toldAs_2 l sz q1
theorem u_isFitFor (l : Launch) (sz : Nat) (hR : RpX G x sh li ad ar S ws) (hI : Inv S) {n k a b : Nat} (ha : hp ws a (.inr (1, [.int (nI n), .int (nI k), .ref b]))) (hk : 4 ≤ k) (hk6 : k ≤ 6) (r : Option Nat) (hv : okr S r) : Met l yX2_isFitFor wsX2_isFitFor ({ frames := 0, cells := 0, slots := 0, locals := 0 } : Room) (Pw G [.ref a, va_rf (r.map ad)] ws sz) (vp_Si (fun z : Int32 => z = if fitE S k r then 1 else 0)) 0 0 (fun _ => False) := by
  have key : ∀ {o : Ob} {h : Nat}, s_o S h = some o → ∀ z : Int32, ((fitK k (o_k o) → z = 1) ∧ (¬ fitK k (o_k o) → z = 0)) → z = if fitE S k (some h) then 1 else 0 := by
    intro o h ho z hz
    have e : obj S (some h) = some o := ho
    unfold fitE
    rw [e]
    rw [fitK_iff hk hk6] at hz
    by_cases hf : (k = 4 ∧ o_k o = 0) ∨ (k = 5 ∧ (o_k o = 7 ∨ o_k o = 8)) ∨ (k = 6 ∧ o_k o = 8)
    · simp only [decide_eq_true hf]
      exact hz.1 hf
    · simp only [decide_eq_false hf]
      exact hz.2 hf
  have wk : ∀ {av : List Value} {P Q : Int32 → Prop}, (∀ z, P z → Q z) → Met l yX2_isFitFor wsX2_isFitFor ({ frames := 0, cells := 0, slots := 0, locals := 0 } : Room) (Pw G av ws sz) (vp_Si P) 0 0 (fun _ => False) → Met l yX2_isFitFor wsX2_isFitFor ({ frames := 0, cells := 0, slots := 0, locals := 0 } : Room) (Pw G av ws sz) (vp_Si Q) 0 0 (fun _ => False) := by
    exact fun h hM => hM.mono (fun _ _ _ _ ⟨r, g1, g2, g3⟩ => ⟨r, g1, h r g2, g3⟩)
  cases r with
  | none => exact c_isFitFor_N l sz ha
  | some h =>
    obtain ⟨o, ho⟩ := hv h rfl
    have hk8 := (hI.ob ho).1
    obtain ⟨dk, kd, q1, q2, q3, q4⟩ := hR.2.2.2.1 h o ho
    rcases (show o_k o ≤ 3 ∨ (4 ≤ o_k o ∧ o_k o ≤ 6) ∨ 7 ≤ o_k o by omega) with h3 | ⟨h3, hm⟩ | h3
    · rw [o_num h3] at q1
      exact wk (key ho) (c_isFitFor_0 l sz ha hk hk6 q1 h3)
    · rw [o_obj h3 hm] at q1
      exact wk (key ho) (c_isFitFor_1 l sz ha hk hk6 q1 h3 hm)
    · rw [o_thg h3] at q1
      exact wk (key ho) (c_isFitFor_2 l sz ha hk hk6 q1 h3 hk8)
end UNI
