section PUB0
variable {p : Program} {l : Launch} {e : Env} {R : Room} {s : State} {m : MethodId} {args : Array Value} {below : List Frame} {meth : Method} {c : Code} {H : Heap} {locs : List Loc} {cells slots : Nat} {Q : State → Prop}
variable {cc : ByteArray} {nL pc : Nat} {ls : Array Slot} {rest st0 : List Value} {Ts : List Cond} {G : Gt} {A : Nat → Prop} {ws : va_W} {x sh li : Nat} {ad ar : Nat → Nat} {S : St}
theorem itm_o (hI : Inv S) {i : Int32} {h : Nat} (hi : itm S i = some h) : ∃ o, s_o S h = some o := by
  unfold itm at hi
  split at hi
  · cases hi
  · split at hi
    · cases hi
    · exact hI.2.2.2.2.2.1 _ _ hi
/-- itemAt, called -/
theorem kx_itemAt (S9 : CallFix p m c cc nL s args Ts RX5) (w : Wd G A s ws H locs) (hR : RpX G x sh li ad ar S ws) (hI : Inv S) {i : Int32} (hg : GoodIn Ts (wsV RX5 58 RX5 yX5_itemAt wsX5_itemAt)) (hsz : ls.size = nL) (hro : (rest.map fun v => v.category).sum ≤ 8) (hdg : decode cc pc = .ok (.invokevirtual 58, 3)) (hR0 : 1 ≤ R.frames ∧ 21 ≤ R.locals) (hf : cells ≤ R.cells ∧ slots ≤ R.slots)
    (kn : itm S i = none → W p l e R s m args below meth c H locs cells slots Q (F0 m (pc + 3) ls (.null :: rest))) (ks : ∀ (h : Nat) (o : Ob), itm S i = some h → s_o S h = some o → W p l e R s m args below meth c H locs cells slots Q (F0 m (pc + 3) ls (.ref (ad h) :: rest))) : W p l e R s m args below meth c H locs cells slots Q (F0 m pc ls (.int i :: .ref x :: rest)) := by
  refine k_vq S9 w (c_itemAt l _ hR i) hR.1 rfl (cwV 1 S9.2.2.2.2 hg rfl rfl rfl (by decide +kernel) hR0) rfl hsz rfl hro hdg hf (fun r hr => ?_)
  subst hr
  cases hi : itm S i with
  | none => exact kn hi
  | some h =>
    obtain ⟨o, ho⟩ := itm_o hI hi
    exact ks h o hi ho
theorem kx_low (S9 : CallFix p m c cc nL s args Ts RX5) (w : Wd G A s ws H locs) (hR : RpX G x sh li ad ar S ws) (hg : GoodIn Ts (wsV RX5 42 RX5 yX5_lowestEmptyPlace wsX5_lowestEmptyPlace)) (hsz : ls.size = nL) (hro : (rest.map fun v => v.category).sum ≤ 8) (hdg : decode cc pc = .ok (.invokevirtual 42, 3)) (hR0 : 1 ≤ R.frames ∧ 21 ≤ R.locals) (hf : cells ≤ R.cells ∧ slots ≤ R.slots)
    (kk : ∀ r : Int32, r = pI (lowE S) → W p l e R s m args below meth c H locs cells slots Q (F0 m (pc + 3) ls (.int r :: rest))) : W p l e R s m args below meth c H locs cells slots Q (F0 m pc ls (.ref x :: rest)) :=
  k_vi S9 w (c_lowestEmptyPlace l _ hR) hR.1 rfl (cwV 0 S9.2.2.2.2 hg rfl rfl rfl (by decide +kernel) hR0) rfl hsz rfl hro hdg hf kk
end PUB0
theorem obj_some {S : St} {i : Int32} {h : Nat} {o : Ob} (hi : itm S i = some h) (ho : s_o S h = some o) : obj S (itm S i) = some o := by
  rw [hi]
  exact ho
theorem obj_none {S : St} {i : Int32} (hi : itm S i = none) : obj S (itm S i) = none := by
  rw [hi]
  rfl
theorem low0_lt {f : Nat → Option Nat} : ∀ {n k p : Nat}, low0 f n k = some p → k ≤ p ∧ p < k + n ∧ f p = none
  | 0, k, p, h => by simp [low0] at h
  | n + 1, k, p, h => by
    unfold low0 at h
    cases hf : f k with
    | none =>
      simp [hf] at h
      subst h
      exact ⟨Nat.le_refl _, by omega, hf⟩
    | some y =>
      simp [hf] at h
      have := low0_lt h
      exact ⟨by omega, by omega, this.2.2⟩
theorem lowE_lt {S : St} {p : Nat} (h : lowE S = some p) : p < 400 ∧ s_s S p = none := by
  have := low0_lt h
  exact ⟨by omega, this.2.2⟩
