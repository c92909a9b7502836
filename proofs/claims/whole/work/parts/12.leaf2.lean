set_option maxHeartbeats 4000000 in
set_option maxRecDepth 100000 in
theorem c_lowestEmptyPlace (l : Launch) {G : Gt} {ws : va_W} (sz : Nat) {x sh li : Nat} {ad ar : Nat → Nat} {S : St} (hR : RpX G x sh li ad ar S ws) : Met l yX5_lowestEmptyPlace wsX5_lowestEmptyPlace ({ frames := 0, cells := 0, slots := 0, locals := 0 } : Room) (Pw G [.ref x] ws sz) (vp_Si (fun r : Int32 => r = pI (lowE S))) 0 0 (fun _ => False) := by
  refine Met_pw (cc := cX5_lowestEmptyPlace) (maxL := 2) (ret := (some .int)) (by decide) rfl (Nat.le_of_ble_eq_true rfl) ?_
  intro p e s m below meth c ls hsz S9 hr hlk hnm w hl
  subst hsz
  replace S9 : CallFix p m c cX5_lowestEmptyPlace 2 s _ wsX5_lowestEmptyPlace RX5 := S9
  have hx := S9.1
  have hb := S9.2.1
  have hown := S9.2.2.2.1
  have hts := S9.2.2.2.2
  replace hl : lv_has ls 2 [(0, .ref x)] := hl
  refine lv_iconst (v := 0) hx hb dX5_lowestEmptyPlace_0 (by decide) ?_
  refine lv_istore_n (lv' := [(1, .int 0), (0, .ref x)]) hx hb dX5_lowestEmptyPlace_1 rfl hl (by decide) rfl (fun ls hl => ?_)
  obtain ⟨k, hk, hv, hE⟩ : ∃ k : Nat, k ≤ 400 ∧ (0 : Int32) = nI k ∧ lowE S = low0 (s_s S) (400 - k) k := ⟨0, by omega, rfl, rfl⟩
  generalize (0 : Int32) = v at hl hv
  obtain ⟨n, hn⟩ : ∃ n, 400 - k < n := ⟨_, Nat.lt_succ_self _⟩
  induction n generalizing k v ls with
  | zero => exact absurd hn (Nat.not_lt_zero _)
  | succ n ih =>
    refine lv_iload_n hx hb dX5_lowestEmptyPlace_2 rfl (lv_at hl 0 rfl) ?_
    refine lv_sipush (v := 400) hx hb dX5_lowestEmptyPlace_3 (by decide) ?_
    refine lv_icmp_ge (tgt := 26) hx hb dX5_lowestEmptyPlace_6 (by decide) (fun c_6 => ?_) (fun c_6 => ?_)
    · refine lv_iconst (v := (-1)) hx hb dX5_lowestEmptyPlace_26 (by decide) ?_
      exact e_i S9 hr hlk (by have h4 := ge_nI (n := 400) hv hk (by decide) c_6; subst h4; rw [hE]; rfl) dX5_lowestEmptyPlace_27
    · refine lv_aload_n hx hb dX5_lowestEmptyPlace_9 rfl (lv_at hl 1 rfl) ?_
      refine r_get (ref := "SpanMover") S9 w hR.1 rfl (by decide +kernel) 0 (by decide) (by decide +kernel) (Or.inl rfl) rfl dX5_lowestEmptyPlace_10 ?_
      refine lv_iload_n hx hb dX5_lowestEmptyPlace_13 rfl (lv_at hl 0 rfl) ?_
      refine r_aald S9 w hR.2.1 (in_nI (n := 400) hv hk (by decide) c_6) dX5_lowestEmptyPlace_14 ?_
      refine lq_ifnonnull (tgt := 20) hx hb dX5_lowestEmptyPlace_15 (by decide) (fun c_15 => ?_) (fun a_15 c_15 => ?_)
      · refine lv_iload_n hx hb dX5_lowestEmptyPlace_18 rfl (lv_at hl 0 rfl) ?_
        exact e_i S9 hr hlk (by rw [cl_nI hv (by omega)] at c_15; rw [hE, low_hit (nge_nI (n := 400) hv hk (by decide) c_6) (by simpa using c_15)]; exact hv) dX5_lowestEmptyPlace_19
      · obtain ⟨v1, ev1⟩ : ∃ z : Int32, z = v + 1 := ⟨_, rfl⟩
        refine lv_iinc (v := v1) (lv' := [(1, .int v1), (0, .ref x)]) hx hb dX5_lowestEmptyPlace_20 hl (k := 0) rfl (by rw [ev1]; rfl) (by decide) rfl (fun ls hl => ?_)
        refine lv_goto (tgt := 2) hx hb dX5_lowestEmptyPlace_23 (by decide) ?_
        have hk4 := nge_nI (n := 400) hv hk (by decide) c_6
        rw [cl_nI hv (by omega)] at c_15
        obtain ⟨y, hy⟩ : ∃ y, s_s S k = some y := by
          cases hs : s_s S k with
          | none => simp [hs] at c_15
          | some y => exact ⟨y, rfl⟩
        exact ih (ls := ls) (k := k + 1) (v := v1) (hk := by omega) (hv := by rw [ev1, hv]; exact nI_1 k) (hE := by rw [hE, low_miss hk4 hy]) (hl := hl) (hn := by omega)

set_option maxHeartbeats 4000000 in
set_option maxRecDepth 100000 in
theorem c_takenPlaces (l : Launch) {G : Gt} {ws : va_W} (sz : Nat) {x sh li : Nat} {ad ar : Nat → Nat} {S : St} (hR : RpX G x sh li ad ar S ws) : Met l yX5_takenPlaces wsX5_takenPlaces ({ frames := 0, cells := 0, slots := 0, locals := 0 } : Room) (Pw G [.ref x] ws sz) (vp_Si (fun r : Int32 => r = nI (tkn (s_s S) 400))) 0 0 (fun _ => False) := by
  refine Met_pw (cc := cX5_takenPlaces) (maxL := 6) (ret := (some .int)) (by decide) rfl (Nat.le_of_ble_eq_true rfl) ?_
  intro p e s m below meth c ls hsz S9 hr hlk hnm w hl
  subst hsz
  replace S9 : CallFix p m c cX5_takenPlaces 6 s _ wsX5_takenPlaces RX5 := S9
  have hx := S9.1
  have hb := S9.2.1
  have hown := S9.2.2.2.1
  have hts := S9.2.2.2.2
  replace hl : lv_has ls 6 [(0, .ref x)] := hl
  refine lv_iconst (v := 0) hx hb dX5_takenPlaces_0 (by decide) ?_
  refine lv_istore_n (lv' := [(1, .int 0), (0, .ref x)]) hx hb dX5_takenPlaces_1 rfl hl (by decide) rfl (fun ls hl => ?_)
  refine lv_aload_n hx hb dX5_takenPlaces_2 rfl (lv_at hl 1 rfl) ?_
  refine r_get (ref := "SpanMover") S9 w hR.1 rfl (by decide +kernel) 0 (by decide) (by decide +kernel) (Or.inl rfl) rfl dX5_takenPlaces_3 ?_
  refine lv_astore_n (lv' := [(2, .ref sh), (1, .int 0), (0, .ref x)]) hx hb dX5_takenPlaces_6 rfl hl (by decide) rfl (fun ls hl => ?_)
  refine lv_aload_n hx hb dX5_takenPlaces_7 rfl (lv_at hl 0 rfl) ?_
  refine r_alen S9 w hR.2.1 dX5_takenPlaces_8 ?_
  refine lv_istore_n (lv' := [(3, .int (nI 400)), (2, .ref sh), (1, .int 0), (0, .ref x)]) hx hb dX5_takenPlaces_9 rfl hl (by decide) rfl (fun ls hl => ?_)
  refine lv_iconst (v := 0) hx hb dX5_takenPlaces_10 (by decide) ?_
  refine lv_istore (lv' := [(4, .int 0), (3, .int (nI 400)), (2, .ref sh), (1, .int 0), (0, .ref x)]) hx hb dX5_takenPlaces_11 hl (by decide) rfl (fun ls hl => ?_)
  obtain ⟨k, hk, hv, ht⟩ : ∃ k : Nat, k ≤ 400 ∧ (0 : Int32) = nI k ∧ (0 : Int32) = nI (tkn (s_s S) k) := ⟨0, by omega, rfl, rfl⟩
  obtain ⟨v, hv0⟩ : ∃ v : Int32, v = 0 := ⟨_, rfl⟩
  obtain ⟨t, ht0⟩ : ∃ t : Int32, t = 0 := ⟨_, rfl⟩
  replace hl : lv_has ls 6 [(4, .int v), (3, .int (nI 400)), (2, .ref sh), (1, .int t), (0, .ref x)] := by rw [hv0, ht0]; exact hl
  rw [← hv0] at hv
  rw [← ht0] at ht
  clear hv0 ht0
  obtain ⟨n, hn⟩ : ∃ n, 400 - k < n := ⟨_, Nat.lt_succ_self _⟩
  induction n generalizing k v t ls with
  | zero => exact absurd hn (Nat.not_lt_zero _)
  | succ n ih =>
    refine lv_iload hx hb dX5_takenPlaces_13 (lv_at hl 0 rfl) ?_
    refine lv_iload_n hx hb dX5_takenPlaces_15 rfl (lv_at hl 1 rfl) ?_
    refine lv_icmp_ge (tgt := 39) hx hb dX5_takenPlaces_16 (by decide) (fun c_16 => ?_) (fun c_16 => ?_)
    · refine lv_iload_n hx hb dX5_takenPlaces_39 rfl (lv_at hl 3 rfl) ?_
      exact e_i S9 hr hlk (by have h4 := ge_nI (n := 400) hv hk (by decide) c_16; subst h4; exact ht) dX5_takenPlaces_40
    · refine lv_aload_n hx hb dX5_takenPlaces_19 rfl (lv_at hl 2 rfl) ?_
      refine lv_iload hx hb dX5_takenPlaces_20 (lv_at hl 0 rfl) ?_
      refine r_aald S9 w hR.2.1 (in_nI (n := 400) hv hk (by decide) c_16) dX5_takenPlaces_22 ?_
      refine lq_astore (lv' := [(5, va_rf ((fun i => (s_s S i).map ad) v.toNatClampNeg)), (4, .int v), (3, .int (nI 400)), (2, .ref sh), (1, .int t), (0, .ref x)]) hx hb dX5_takenPlaces_23 hl (by decide) rfl (fun ls hl => ?_)
      refine lq_aload hx hb dX5_takenPlaces_25 (lv_at hl 0 rfl) ?_
      refine lq_ifnull (tgt := 33) hx hb dX5_takenPlaces_27 (by decide) (fun c_27 => ?_) (fun a_27 c_27 => ?_)
      · obtain ⟨v1, ev1⟩ : ∃ z : Int32, z = v + 1 := ⟨_, rfl⟩
        refine lv_iinc (v := v1) (lv' := [(4, .int v1), (5, va_rf ((fun i => (s_s S i).map ad) v.toNatClampNeg)), (3, .int (nI 400)), (2, .ref sh), (1, .int t), (0, .ref x)]) hx hb dX5_takenPlaces_33 hl (k := 1) rfl (by rw [ev1]; rfl) (by decide) rfl (fun ls hl => ?_)
        refine lv_goto (tgt := 13) hx hb dX5_takenPlaces_36 (by decide) ?_
        have hk4 := nge_nI (n := 400) hv hk (by decide) c_16
        rw [cl_nI hv (by omega)] at c_27
        exact ih (ls := ls) (k := k + 1) (v := v1) (t := t) (hk := by omega) (hv := by rw [ev1, hv]; exact nI_1 k) (ht := by
            cases hs : s_s S k with
            | none => simp [hs] at c_27 <;> simp [tkn, hs,  ht]
            | some y => simp [hs] at c_27 <;> simp [tkn, hs,  ht, nI_succ]) (hl := lv_sub hl [0, 2, 3, 4, 5] rfl) (hn := by omega)
      · obtain ⟨v2, ev2⟩ : ∃ z : Int32, z = t + 1 := ⟨_, rfl⟩
        refine lv_iinc (v := v2) (lv' := [(1, .int v2), (5, va_rf ((fun i => (s_s S i).map ad) v.toNatClampNeg)), (4, .int v), (3, .int (nI 400)), (2, .ref sh), (0, .ref x)]) hx hb dX5_takenPlaces_30 hl (k := 4) rfl (by rw [ev2]; rfl) (by decide) rfl (fun ls hl => ?_)
        obtain ⟨v3, ev3⟩ : ∃ z : Int32, z = v + 1 := ⟨_, rfl⟩
        refine lv_iinc (v := v3) (lv' := [(4, .int v3), (1, .int v2), (5, va_rf ((fun i => (s_s S i).map ad) v.toNatClampNeg)), (3, .int (nI 400)), (2, .ref sh), (0, .ref x)]) hx hb dX5_takenPlaces_33 hl (k := 2) rfl (by rw [ev3]; rfl) (by decide) rfl (fun ls hl => ?_)
        refine lv_goto (tgt := 13) hx hb dX5_takenPlaces_36 (by decide) ?_
        have hk4 := nge_nI (n := 400) hv hk (by decide) c_16
        rw [cl_nI hv (by omega)] at c_27
        exact ih (ls := ls) (k := k + 1) (v := v3) (t := v2) (hk := by omega) (hv := by rw [ev3, hv]; exact nI_1 k) (ht := by
            cases hs : s_s S k with
            | none => simp [hs] at c_27 <;> simp [tkn, hs, ev2, ht]
            | some y => simp [hs] at c_27 <;> simp [tkn, hs, ev2, ht, nI_succ]) (hl := lv_sub hl [0, 3, 4, 1, 5] rfl) (hn := by omega)
