theorem st_1 {S : St} {pl i th : Int32} (h : itm S th = none) (h1 : ¬ th = -1) : sp_setThing S pl i th = (1, S) := by
  simp [sp_setThing, h, h1]
theorem st_N {S : St} {pl i th : Int32} (h : itm S pl = none) : sp_setThing S pl i th = (1, S) := by
  unfold sp_setThing
  split
  · rfl
  · simp [h]
theorem st_no {S : St} {pl i th : Int32} {h : Nat} {o : Ob} (hn : ¬ (itm S th = none ∧ ¬ th = -1)) (hi : itm S pl = some h) (ho : s_o S h = some o) (hr : ¬ ref1 (some o) i 4 6 = 0) : sp_setThing S pl i th = (ref1 (some o) i 4 6, S) := by
  unfold sp_setThing
  rw [if_neg hn]
  simp [hi, ho, hr]
theorem st_ok {S : St} {pl i th : Int32} {h : Nat} {o : Ob} (hn : ¬ (itm S th = none ∧ ¬ th = -1)) (hi : itm S pl = some h) (ho : s_o S h = some o) (hr : ref1 (some o) i 4 6 = 0) (hf : fitE S (o_k o) (itm S th) = true) : sp_setThing S pl i th = (0, s_put S h (o_sete o (va_up (o_e o) i.toNatClampNeg (itm S th)))) := by
  unfold sp_setThing
  rw [if_neg hn]
  unfold fitE at hf
  cases ht : obj S (itm S th) with
  | none => simp [hi, ho, hr, ht]
  | some o' =>
    rw [ht] at hf
    have hf := of_decide_eq_true hf
    simp [hi, ho, hr, ht, hf]
theorem st_bad {S : St} {pl i th : Int32} {h : Nat} {o : Ob} (hn : ¬ (itm S th = none ∧ ¬ th = -1)) (hi : itm S pl = some h) (ho : s_o S h = some o) (hr : ref1 (some o) i 4 6 = 0) (hf : fitE S (o_k o) (itm S th) = false) : sp_setThing S pl i th = (5, S) := by
  unfold sp_setThing
  rw [if_neg hn]
  unfold fitE at hf
  cases ht : obj S (itm S th) with
  | none => rw [ht] at hf; cases hf
  | some o' =>
    rw [ht] at hf
    have hf := of_decide_eq_false hf
    simp [hi, ho, hr, ht, hf]
theorem map_ad_none {ad : Nat → Nat} {r : Option Nat} (h : r.map ad = none) : r = none := by
  cases r with
  | none => rfl
  | some y => cases h
theorem map_ad_some {ad : Nat → Nat} {r : Option Nat} {a : Nat} (h : r.map ad = some a) : ¬ r = none := fun q => by
  rw [q] at h
  cases h
theorem map_up {ad : Nat → Nat} {f : Nat → Option Nat} {k : Nat} {r : Option Nat} : va_up (fun i => (f i).map ad) k (r.map ad) = fun i => (va_up f k r i).map ad := by
  funext j
  by_cases hj : j = k <;> simp [va_up, hj]
section UNI2
variable {G : Gt} {ws : va_W} {x sh li : Nat} {ad ar : Nat → Nat} {S : St}
theorem u_putObject (l : Launch) (sz : Nat) (hR : RpX G x sh li ad ar S ws) {n k a b : Nat} (ha : hp ws a (.inr (1, [.int (nI n), .int (nI k), .ref b]))) {f : Nat → Option Nat} (hb0 : hp ws b (aT G n f)) (i : Int32) (hi : vp_in i n) (r : Option Nat) (hv : okr S r) : Met l yX2_putObject wsX2_putObject ({ frames := 0, cells := 0, slots := 0, locals := 0 } : Room) (Pw G [.ref a, .int i, va_rf (r.map ad)] ws sz) (va_Qv (fun (u : va_W) => hu ws b (aT G n (va_up f i.toNatClampNeg (r.map ad))) u) (Bw G ws sz) (va_A ws sz)) 0 0 (va_A ws sz) := by
  cases r with
  | none => exact c_putObject_N l sz ha hb0 i hi
  | some h =>
    obtain ⟨o, ho⟩ := hv h rfl
    obtain ⟨dk, kd, q1, q2, q3, q4⟩ := hR.2.2.2.1 h o ho
    exact c_putObject_S l sz ha hb0 i hi (o_cl3 _) q1
end UNI2
theorem Inv.sc {S : St} (hI : Inv S) (f : Nat → Int32) (h0 : f 0 = s_c S 0) (h1 : f 1 = s_c S 1) : Inv (s_u S, s_o S, s_s S, s_l S, f) := by
  obtain ⟨g1, g2, ⟨k, g3, g4⟩, g5⟩ := hI
  exact ⟨g1, h1.trans g2, ⟨k, g3, h0.trans g4⟩, g5⟩
theorem va_rf_cat (r : Option Nat) : (va_rf r).category = 1 := by cases r <;> rfl
