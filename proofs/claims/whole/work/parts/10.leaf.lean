set_option maxHeartbeats 4000000 in
set_option maxRecDepth 100000 in
/-- itemAt -/
theorem c_itemAt (l : Launch) {G : Gt} {ws : va_W} (sz : Nat) {x sh li : Nat} {ad ar : Nat → Nat} {S : St} (hR : RpX G x sh li ad ar S ws) (i : Int32) : Met l yX5_itemAt wsX5_itemAt ({ frames := 0, cells := 0, slots := 0, locals := 0 } : Room) (Pw G [.ref x, .int i] ws sz) (va_Sq (fun r : Option Nat => r = (itm S i).map ad)) 0 0 (fun _ => False) := by
  refine Met_pw (cc := cX5_itemAt) (maxL := 2) (ret := (some (.object "SpanMover$Item"))) (by decide) rfl (Nat.le_of_ble_eq_true rfl) ?_
  intro p e s m below meth c ls hsz S9 hr hlk hnm w hl
  subst hsz
  replace S9 : CallFix p m c cX5_itemAt 2 s _ wsX5_itemAt RX5 := S9
  have hx := S9.1
  have hb := S9.2.1
  have hown := S9.2.2.2.1
  have hts := S9.2.2.2.2
  replace hl : lv_has ls 2 [(0, .ref x), (1, .int i)] := hl
  refine lv_iload_n hx hb dX5_itemAt_0 rfl (lv_at hl 1 rfl) ?_
  refine lv_if_lt (tgt := 20) hx hb dX5_itemAt_1 (by decide) (fun c_1 => ?_) (fun c_1 => ?_)
  · refine lv_null hx hb dX5_itemAt_20 ?_
    exact e_q (r := none) S9 hr hlk (by simp [itm, c_1]) dX5_itemAt_21
  · refine lv_iload_n hx hb dX5_itemAt_4 rfl (lv_at hl 1 rfl) ?_
    refine lv_sipush (v := 400) hx hb dX5_itemAt_5 (by decide) ?_
    refine lv_icmp_ge (tgt := 20) hx hb dX5_itemAt_8 (by decide) (fun c_8 => ?_) (fun c_8 => ?_)
    · refine lv_null hx hb dX5_itemAt_20 ?_
      exact e_q (r := none) S9 hr hlk (by simp [itm, c_1, c_8]) dX5_itemAt_21
    · refine lv_aload_n hx hb dX5_itemAt_11 rfl (lv_at hl 0 rfl) ?_
      refine r_get (ref := "SpanMover") S9 w hR.1 rfl (by decide +kernel) 0 (by decide) (by decide +kernel) (Or.inl rfl) rfl dX5_itemAt_12 ?_
      refine lv_iload_n hx hb dX5_itemAt_15 rfl (lv_at hl 1 rfl) ?_
      refine r_aald S9 w hR.2.1 (in_of c_1 c_8 (by decide)) dX5_itemAt_16 ?_
      refine lv_goto (tgt := 21) hx hb dX5_itemAt_17 (by decide) ?_
      exact e_q (r := (fun i => (s_s S i).map ad) i.toNatClampNeg) S9 hr hlk (by simp [itm, c_1, c_8]) dX5_itemAt_21

set_option maxHeartbeats 4000000 in
set_option maxRecDepth 100000 in
theorem c_why (l : Launch) {G : Gt} {ws : va_W} (sz : Nat) {x sh li : Nat} {ad ar : Nat → Nat} {S : St} (hR : RpX G x sh li ad ar S ws) : Met l yX5_why wsX5_why ({ frames := 0, cells := 0, slots := 0, locals := 0 } : Room) (Pw G [.ref x] ws sz) (vp_Si (fun r : Int32 => r = s_c S 2)) 0 0 (fun _ => False) := by
  refine Met_pw (cc := cX5_why) (maxL := 1) (ret := (some .int)) (by decide) rfl (Nat.le_of_ble_eq_true rfl) ?_
  intro p e s m below meth c ls hsz S9 hr hlk hnm w hl
  subst hsz
  replace S9 : CallFix p m c cX5_why 1 s _ wsX5_why RX5 := S9
  have hx := S9.1
  have hb := S9.2.1
  have hown := S9.2.2.2.1
  have hts := S9.2.2.2.2
  replace hl : lv_has ls 1 [(0, .ref x)] := hl
  refine lv_aload_n hx hb dX5_why_0 rfl (lv_at hl 0 rfl) ?_
  refine r_get (ref := "SpanMover") S9 w hR.1 rfl (by decide +kernel) 4 (by decide) (by decide +kernel) (Or.inl rfl) rfl dX5_why_1 ?_
  exact e_i S9 hr hlk (rfl) dX5_why_4

set_option maxHeartbeats 4000000 in
set_option maxRecDepth 100000 in
theorem c_moved (l : Launch) {G : Gt} {ws : va_W} (sz : Nat) {x sh li : Nat} {ad ar : Nat → Nat} {S : St} (hR : RpX G x sh li ad ar S ws) : Met l yX5_moved wsX5_moved ({ frames := 0, cells := 0, slots := 0, locals := 0 } : Room) (Pw G [.ref x] ws sz) (vp_Si (fun r : Int32 => r = s_c S 3)) 0 0 (fun _ => False) := by
  refine Met_pw (cc := cX5_moved) (maxL := 1) (ret := (some .int)) (by decide) rfl (Nat.le_of_ble_eq_true rfl) ?_
  intro p e s m below meth c ls hsz S9 hr hlk hnm w hl
  subst hsz
  replace S9 : CallFix p m c cX5_moved 1 s _ wsX5_moved RX5 := S9
  have hx := S9.1
  have hb := S9.2.1
  have hown := S9.2.2.2.1
  have hts := S9.2.2.2.2
  replace hl : lv_has ls 1 [(0, .ref x)] := hl
  refine lv_aload_n hx hb dX5_moved_0 rfl (lv_at hl 0 rfl) ?_
  refine r_get (ref := "SpanMover") S9 w hR.1 rfl (by decide +kernel) 5 (by decide) (by decide +kernel) (Or.inl rfl) rfl dX5_moved_1 ?_
  exact e_i S9 hr hlk (rfl) dX5_moved_4

set_option maxHeartbeats 4000000 in
set_option maxRecDepth 100000 in
theorem c_ended (l : Launch) {G : Gt} {ws : va_W} (sz : Nat) {x sh li : Nat} {ad ar : Nat → Nat} {S : St} (hR : RpX G x sh li ad ar S ws) : Met l yX5_ended wsX5_ended ({ frames := 0, cells := 0, slots := 0, locals := 0 } : Room) (Pw G [.ref x] ws sz) (vp_Si (fun r : Int32 => r = s_c S 4)) 0 0 (fun _ => False) := by
  refine Met_pw (cc := cX5_ended) (maxL := 1) (ret := (some .int)) (by decide) rfl (Nat.le_of_ble_eq_true rfl) ?_
  intro p e s m below meth c ls hsz S9 hr hlk hnm w hl
  subst hsz
  replace S9 : CallFix p m c cX5_ended 1 s _ wsX5_ended RX5 := S9
  have hx := S9.1
  have hb := S9.2.1
  have hown := S9.2.2.2.1
  have hts := S9.2.2.2.2
  replace hl : lv_has ls 1 [(0, .ref x)] := hl
  refine lv_aload_n hx hb dX5_ended_0 rfl (lv_at hl 0 rfl) ?_
  refine r_get (ref := "SpanMover") S9 w hR.1 rfl (by decide +kernel) 6 (by decide) (by decide +kernel) (Or.inl rfl) rfl dX5_ended_1 ?_
  exact e_i S9 hr hlk (rfl) dX5_ended_4

set_option maxHeartbeats 4000000 in
set_option maxRecDepth 100000 in
theorem c_hasElement_0 (l : Launch) {G : Gt} {ws : va_W} (sz : Nat) {n k a b : Nat} {dk : Int32} {kd : Int64} (ha : hp ws a (.inr (0, [.int (nI n), .int (nI k), .ref b, .int dk, .long kd]))) (i : Int32) : Met l yX3_hasElement wsX3_hasElement ({ frames := 0, cells := 0, slots := 0, locals := 0 } : Room) (Pw G [.ref a, .int i] ws sz) (vp_Si (fun r : Int32 => r = if inE n i then 1 else 0)) 0 0 (fun _ => False) := by
  refine Met_pw (cc := cX3_hasElement) (maxL := 2) (ret := (some .boolean)) (by decide) rfl (Nat.le_of_ble_eq_true rfl) ?_
  intro p e s m below meth c ls hsz S9 hr hlk hnm w hl
  subst hsz
  replace S9 : CallFix p m c cX3_hasElement 2 s _ wsX3_hasElement RX3 := S9
  have hx := S9.1
  have hb := S9.2.1
  have hown := S9.2.2.2.1
  have hts := S9.2.2.2.2
  replace hl : lv_has ls 2 [(0, .ref a), (1, .int i)] := hl
  refine lv_iload_n hx hb dX3_hasElement_0 rfl (lv_at hl 1 rfl) ?_
  refine lv_if_lt (tgt := 16) hx hb dX3_hasElement_1 (by decide) (fun c_1 => ?_) (fun c_1 => ?_)
  · refine lv_iconst (v := 0) hx hb dX3_hasElement_16 (by decide) ?_
    exact e_z S9 hr hlk (by first | exact Or.inl rfl | exact Or.inr rfl) (by simp [inE, c_1]) dX3_hasElement_17
  · refine lv_iload_n hx hb dX3_hasElement_4 rfl (lv_at hl 1 rfl) ?_
    refine lv_aload_n hx hb dX3_hasElement_5 rfl (lv_at hl 0 rfl) ?_
    refine r_get (ref := "SpanMover$Row") S9 w ha rfl (by decide +kernel) 0 (by decide) (by decide +kernel) (Or.inl rfl) rfl dX3_hasElement_6 ?_
    refine lv_icmp_ge (tgt := 16) hx hb dX3_hasElement_9 (by decide) (fun c_9 => ?_) (fun c_9 => ?_)
    · refine lv_iconst (v := 0) hx hb dX3_hasElement_16 (by decide) ?_
      exact e_z S9 hr hlk (by first | exact Or.inl rfl | exact Or.inr rfl) (by simp [inE, c_1, c_9]) dX3_hasElement_17
    · refine lv_iconst (v := 1) hx hb dX3_hasElement_12 (by decide) ?_
      refine lv_goto (tgt := 17) hx hb dX3_hasElement_13 (by decide) ?_
      exact e_z S9 hr hlk (by first | exact Or.inl rfl | exact Or.inr rfl) (by simp [inE, c_1, c_9]) dX3_hasElement_17

set_option maxHeartbeats 4000000 in
set_option maxRecDepth 100000 in
theorem c_hasSpan_0 (l : Launch) {G : Gt} {ws : va_W} (sz : Nat) {n k a b : Nat} {dk : Int32} {kd : Int64} (ha : hp ws a (.inr (0, [.int (nI n), .int (nI k), .ref b, .int dk, .long kd]))) (hn : n < 2 ^ 31) (i j : Int32) : Met l yX3_hasSpan wsX3_hasSpan ({ frames := 0, cells := 0, slots := 0, locals := 0 } : Room) (Pw G [.ref a, .int i, .int j] ws sz) (vp_Si (fun r : Int32 => r = if inS n i j then 1 else 0)) 0 0 (fun _ => False) := by
  refine Met_pw (cc := cX3_hasSpan) (maxL := 3) (ret := (some .boolean)) (by decide) rfl (Nat.le_of_ble_eq_true rfl) ?_
  intro p e s m below meth c ls hsz S9 hr hlk hnm w hl
  subst hsz
  replace S9 : CallFix p m c cX3_hasSpan 3 s _ wsX3_hasSpan RX3 := S9
  have hx := S9.1
  have hb := S9.2.1
  have hown := S9.2.2.2.1
  have hts := S9.2.2.2.2
  replace hl : lv_has ls 3 [(0, .ref a), (1, .int i), (2, .int j)] := hl
  refine lv_iload_n hx hb dX3_hasSpan_0 rfl (lv_at hl 1 rfl) ?_
  refine lv_if_lt (tgt := 26) hx hb dX3_hasSpan_1 (by decide) (fun c_1 => ?_) (fun c_1 => ?_)
  · refine lv_iconst (v := 0) hx hb dX3_hasSpan_26 (by decide) ?_
    exact e_z S9 hr hlk (by first | exact Or.inl rfl | exact Or.inr rfl) (by simp [inS, c_1]) dX3_hasSpan_27
  · refine lv_iload_n hx hb dX3_hasSpan_4 rfl (lv_at hl 2 rfl) ?_
    refine lv_if_lt (tgt := 26) hx hb dX3_hasSpan_5 (by decide) (fun c_5 => ?_) (fun c_5 => ?_)
    · refine lv_iconst (v := 0) hx hb dX3_hasSpan_26 (by decide) ?_
      exact e_z S9 hr hlk (by first | exact Or.inl rfl | exact Or.inr rfl) (by simp [inS, c_1, c_5]) dX3_hasSpan_27
    · refine lv_iload_n hx hb dX3_hasSpan_8 rfl (lv_at hl 1 rfl) ?_
      obtain ⟨v1, ev1⟩ : ∃ z : Int64, Int32.toInt64 i = z := ⟨_, rfl⟩
      refine lv_i2l (v := v1) hx hb dX3_hasSpan_9 ev1 ?_
      refine lv_iload_n hx hb dX3_hasSpan_10 rfl (lv_at hl 2 rfl) ?_
      obtain ⟨v2, ev2⟩ : ∃ z : Int64, Int32.toInt64 j = z := ⟨_, rfl⟩
      refine lv_i2l (v := v2) hx hb dX3_hasSpan_11 ev2 ?_
      refine lv_ladd hx hb dX3_hasSpan_12 ?_
      refine lv_topl (fun v3 ev3 => ?_)
      refine lv_aload_n hx hb dX3_hasSpan_13 rfl (lv_at hl 0 rfl) ?_
      refine r_get (ref := "SpanMover$Row") S9 w ha rfl (by decide +kernel) 0 (by decide) (by decide +kernel) (Or.inl rfl) rfl dX3_hasSpan_14 ?_
      obtain ⟨v4, ev4⟩ : ∃ z : Int64, Int32.toInt64 (nI n) = z := ⟨_, rfl⟩
      refine lv_i2l (v := v4) hx hb dX3_hasSpan_17 ev4 ?_
      refine W.lcmp hx hb dX3_hasSpan_18 ?_
      refine lv_topi (fun v5 ev5 => ?_)
      refine lv_if_gt (tgt := 26) hx hb dX3_hasSpan_19 (by decide) (fun c_19 => ?_) (fun c_19 => ?_)
      · refine lv_iconst (v := 0) hx hb dX3_hasSpan_26 (by decide) ?_
        exact e_z S9 hr hlk (by first | exact Or.inl rfl | exact Or.inr rfl) (by rw [span_cmp hn ev1 ev2 ev3 ev4 ev5] at c_19; simp [inS, c_1, c_5, c_19]) dX3_hasSpan_27
      · refine lv_iconst (v := 1) hx hb dX3_hasSpan_22 (by decide) ?_
        refine lv_goto (tgt := 27) hx hb dX3_hasSpan_23 (by decide) ?_
        exact e_z S9 hr hlk (by first | exact Or.inl rfl | exact Or.inr rfl) (by rw [span_cmp hn ev1 ev2 ev3 ev4 ev5] at c_19; simp [inS, c_1, c_5, Decidable.not_not.mp c_19]) dX3_hasSpan_27

set_option maxHeartbeats 4000000 in
set_option maxRecDepth 100000 in
theorem c_hasElement_1 (l : Launch) {G : Gt} {ws : va_W} (sz : Nat) {n k a b : Nat} (ha : hp ws a (.inr (1, [.int (nI n), .int (nI k), .ref b]))) (i : Int32) : Met l yX3_hasElement wsX3_hasElement ({ frames := 0, cells := 0, slots := 0, locals := 0 } : Room) (Pw G [.ref a, .int i] ws sz) (vp_Si (fun r : Int32 => r = if inE n i then 1 else 0)) 0 0 (fun _ => False) := by
  refine Met_pw (cc := cX3_hasElement) (maxL := 2) (ret := (some .boolean)) (by decide) rfl (Nat.le_of_ble_eq_true rfl) ?_
  intro p e s m below meth c ls hsz S9 hr hlk hnm w hl
  subst hsz
  replace S9 : CallFix p m c cX3_hasElement 2 s _ wsX3_hasElement RX3 := S9
  have hx := S9.1
  have hb := S9.2.1
  have hown := S9.2.2.2.1
  have hts := S9.2.2.2.2
  replace hl : lv_has ls 2 [(0, .ref a), (1, .int i)] := hl
  refine lv_iload_n hx hb dX3_hasElement_0 rfl (lv_at hl 1 rfl) ?_
  refine lv_if_lt (tgt := 16) hx hb dX3_hasElement_1 (by decide) (fun c_1 => ?_) (fun c_1 => ?_)
  · refine lv_iconst (v := 0) hx hb dX3_hasElement_16 (by decide) ?_
    exact e_z S9 hr hlk (by first | exact Or.inl rfl | exact Or.inr rfl) (by simp [inE, c_1]) dX3_hasElement_17
  · refine lv_iload_n hx hb dX3_hasElement_4 rfl (lv_at hl 1 rfl) ?_
    refine lv_aload_n hx hb dX3_hasElement_5 rfl (lv_at hl 0 rfl) ?_
    refine r_get (ref := "SpanMover$Row") S9 w ha rfl (by decide +kernel) 0 (by decide) (by decide +kernel) (Or.inl rfl) rfl dX3_hasElement_6 ?_
    refine lv_icmp_ge (tgt := 16) hx hb dX3_hasElement_9 (by decide) (fun c_9 => ?_) (fun c_9 => ?_)
    · refine lv_iconst (v := 0) hx hb dX3_hasElement_16 (by decide) ?_
      exact e_z S9 hr hlk (by first | exact Or.inl rfl | exact Or.inr rfl) (by simp [inE, c_1, c_9]) dX3_hasElement_17
    · refine lv_iconst (v := 1) hx hb dX3_hasElement_12 (by decide) ?_
      refine lv_goto (tgt := 17) hx hb dX3_hasElement_13 (by decide) ?_
      exact e_z S9 hr hlk (by first | exact Or.inl rfl | exact Or.inr rfl) (by simp [inE, c_1, c_9]) dX3_hasElement_17

set_option maxHeartbeats 4000000 in
set_option maxRecDepth 100000 in
theorem c_hasSpan_1 (l : Launch) {G : Gt} {ws : va_W} (sz : Nat) {n k a b : Nat} (ha : hp ws a (.inr (1, [.int (nI n), .int (nI k), .ref b]))) (hn : n < 2 ^ 31) (i j : Int32) : Met l yX3_hasSpan wsX3_hasSpan ({ frames := 0, cells := 0, slots := 0, locals := 0 } : Room) (Pw G [.ref a, .int i, .int j] ws sz) (vp_Si (fun r : Int32 => r = if inS n i j then 1 else 0)) 0 0 (fun _ => False) := by
  refine Met_pw (cc := cX3_hasSpan) (maxL := 3) (ret := (some .boolean)) (by decide) rfl (Nat.le_of_ble_eq_true rfl) ?_
  intro p e s m below meth c ls hsz S9 hr hlk hnm w hl
  subst hsz
  replace S9 : CallFix p m c cX3_hasSpan 3 s _ wsX3_hasSpan RX3 := S9
  have hx := S9.1
  have hb := S9.2.1
  have hown := S9.2.2.2.1
  have hts := S9.2.2.2.2
  replace hl : lv_has ls 3 [(0, .ref a), (1, .int i), (2, .int j)] := hl
  refine lv_iload_n hx hb dX3_hasSpan_0 rfl (lv_at hl 1 rfl) ?_
  refine lv_if_lt (tgt := 26) hx hb dX3_hasSpan_1 (by decide) (fun c_1 => ?_) (fun c_1 => ?_)
  · refine lv_iconst (v := 0) hx hb dX3_hasSpan_26 (by decide) ?_
    exact e_z S9 hr hlk (by first | exact Or.inl rfl | exact Or.inr rfl) (by simp [inS, c_1]) dX3_hasSpan_27
  · refine lv_iload_n hx hb dX3_hasSpan_4 rfl (lv_at hl 2 rfl) ?_
    refine lv_if_lt (tgt := 26) hx hb dX3_hasSpan_5 (by decide) (fun c_5 => ?_) (fun c_5 => ?_)
    · refine lv_iconst (v := 0) hx hb dX3_hasSpan_26 (by decide) ?_
      exact e_z S9 hr hlk (by first | exact Or.inl rfl | exact Or.inr rfl) (by simp [inS, c_1, c_5]) dX3_hasSpan_27
    · refine lv_iload_n hx hb dX3_hasSpan_8 rfl (lv_at hl 1 rfl) ?_
      obtain ⟨v1, ev1⟩ : ∃ z : Int64, Int32.toInt64 i = z := ⟨_, rfl⟩
      refine lv_i2l (v := v1) hx hb dX3_hasSpan_9 ev1 ?_
      refine lv_iload_n hx hb dX3_hasSpan_10 rfl (lv_at hl 2 rfl) ?_
      obtain ⟨v2, ev2⟩ : ∃ z : Int64, Int32.toInt64 j = z := ⟨_, rfl⟩
      refine lv_i2l (v := v2) hx hb dX3_hasSpan_11 ev2 ?_
      refine lv_ladd hx hb dX3_hasSpan_12 ?_
      refine lv_topl (fun v3 ev3 => ?_)
      refine lv_aload_n hx hb dX3_hasSpan_13 rfl (lv_at hl 0 rfl) ?_
      refine r_get (ref := "SpanMover$Row") S9 w ha rfl (by decide +kernel) 0 (by decide) (by decide +kernel) (Or.inl rfl) rfl dX3_hasSpan_14 ?_
      obtain ⟨v4, ev4⟩ : ∃ z : Int64, Int32.toInt64 (nI n) = z := ⟨_, rfl⟩
      refine lv_i2l (v := v4) hx hb dX3_hasSpan_17 ev4 ?_
      refine W.lcmp hx hb dX3_hasSpan_18 ?_
      refine lv_topi (fun v5 ev5 => ?_)
      refine lv_if_gt (tgt := 26) hx hb dX3_hasSpan_19 (by decide) (fun c_19 => ?_) (fun c_19 => ?_)
      · refine lv_iconst (v := 0) hx hb dX3_hasSpan_26 (by decide) ?_
        exact e_z S9 hr hlk (by first | exact Or.inl rfl | exact Or.inr rfl) (by rw [span_cmp hn ev1 ev2 ev3 ev4 ev5] at c_19; simp [inS, c_1, c_5, c_19]) dX3_hasSpan_27
      · refine lv_iconst (v := 1) hx hb dX3_hasSpan_22 (by decide) ?_
        refine lv_goto (tgt := 27) hx hb dX3_hasSpan_23 (by decide) ?_
        exact e_z S9 hr hlk (by first | exact Or.inl rfl | exact Or.inr rfl) (by rw [span_cmp hn ev1 ev2 ev3 ev4 ev5] at c_19; simp [inS, c_1, c_5, Decidable.not_not.mp c_19]) dX3_hasSpan_27

set_option maxHeartbeats 4000000 in
set_option maxRecDepth 100000 in
theorem c_numberAt (l : Launch) {G : Gt} {ws : va_W} (sz : Nat) {n k a b : Nat} {dk : Int32} {kd : Int64} (ha : hp ws a (.inr (0, [.int (nI n), .int (nI k), .ref b, .int dk, .long kd]))) {f : Nat → Int64} (hb0 : hp ws b (aJ G n f)) (i : Int32) (hi : vp_in i n) : Met l yX1_numberAt wsX1_numberAt ({ frames := 0, cells := 0, slots := 0, locals := 0 } : Room) (Pw G [.ref a, .int i] ws sz) (vp_Sl (fun r : Int64 => r = f i.toNatClampNeg)) 0 0 (fun _ => False) := by
  refine Met_pw (cc := cX1_numberAt) (maxL := 2) (ret := (some .long)) (by decide) rfl (Nat.le_of_ble_eq_true rfl) ?_
  intro p e s m below meth c ls hsz S9 hr hlk hnm w hl
  subst hsz
  replace S9 : CallFix p m c cX1_numberAt 2 s _ wsX1_numberAt RX1 := S9
  have hx := S9.1
  have hb := S9.2.1
  have hown := S9.2.2.2.1
  have hts := S9.2.2.2.2
  replace hl : lv_has ls 2 [(0, .ref a), (1, .int i)] := hl
  refine lv_aload_n hx hb dX1_numberAt_0 rfl (lv_at hl 0 rfl) ?_
  refine r_get (ref := "SpanMover$NumberRow") S9 w ha rfl (by decide +kernel) 2 (by decide) (by decide +kernel) (Or.inl rfl) rfl dX1_numberAt_1 ?_
  refine lv_iload_n hx hb dX1_numberAt_4 rfl (lv_at hl 1 rfl) ?_
  refine r_lald S9 w hb0 hi dX1_numberAt_5 ?_
  refine lv_topl (fun v1 ev1 => ?_)
  exact e_l S9 hr hlk (ev1) dX1_numberAt_6

set_option maxHeartbeats 4000000 in
set_option maxRecDepth 100000 in
theorem c_objectAt (l : Launch) {G : Gt} {ws : va_W} (sz : Nat) {n k a b : Nat} (ha : hp ws a (.inr (1, [.int (nI n), .int (nI k), .ref b]))) {f : Nat → Option Nat} (hb0 : hp ws b (aT G n f)) (i : Int32) (hi : vp_in i n) : Met l yX2_objectAt wsX2_objectAt ({ frames := 0, cells := 0, slots := 0, locals := 0 } : Room) (Pw G [.ref a, .int i] ws sz) (va_Sq (fun r : Option Nat => r = f i.toNatClampNeg)) 0 0 (fun _ => False) := by
  refine Met_pw (cc := cX2_objectAt) (maxL := 2) (ret := (some (.object "SpanMover$Item"))) (by decide) rfl (Nat.le_of_ble_eq_true rfl) ?_
  intro p e s m below meth c ls hsz S9 hr hlk hnm w hl
  subst hsz
  replace S9 : CallFix p m c cX2_objectAt 2 s _ wsX2_objectAt RX2 := S9
  have hx := S9.1
  have hb := S9.2.1
  have hown := S9.2.2.2.1
  have hts := S9.2.2.2.2
  replace hl : lv_has ls 2 [(0, .ref a), (1, .int i)] := hl
  refine lv_aload_n hx hb dX2_objectAt_0 rfl (lv_at hl 0 rfl) ?_
  refine r_get (ref := "SpanMover$ObjectRow") S9 w ha rfl (by decide +kernel) 2 (by decide) (by decide +kernel) (Or.inl rfl) rfl dX2_objectAt_1 ?_
  refine lv_iload_n hx hb dX2_objectAt_4 rfl (lv_at hl 1 rfl) ?_
  refine r_aald S9 w hb0 hi dX2_objectAt_5 ?_
  exact e_q (r := (f) i.toNatClampNeg) S9 hr hlk (rfl) dX2_objectAt_6

set_option maxHeartbeats 4000000 in
set_option maxRecDepth 100000 in
theorem c_narrowed (l : Launch) {G : Gt} {ws : va_W} (sz : Nat) {n k a b : Nat} {dk : Int32} {kd : Int64} (ha : hp ws a (.inr (0, [.int (nI n), .int (nI k), .ref b, .int dk, .long kd]))) (hk : k ≤ 3) (v : Int64) : Met l yX1_narrowed wsX1_narrowed ({ frames := 0, cells := 0, slots := 0, locals := 0 } : Room) (Pw G [.ref a, .long v] ws sz) (vp_Sl (fun r : Int64 => r = narK k v)) 0 0 (fun _ => False) := by
  refine Met_pw (cc := cX1_narrowed) (maxL := 3) (ret := (some .long)) (by decide) rfl (Nat.le_of_ble_eq_true rfl) ?_
  intro p e s m below meth c ls hsz S9 hr hlk hnm w hl
  subst hsz
  replace S9 : CallFix p m c cX1_narrowed 3 s _ wsX1_narrowed RX1 := S9
  have hx := S9.1
  have hb := S9.2.1
  have hown := S9.2.2.2.1
  have hts := S9.2.2.2.2
  replace hl : lv_has ls 3 [(0, .ref a), (1, .long v)] := hl
  refine lv_aload_n hx hb dX1_narrowed_0 rfl (lv_at hl 0 rfl) ?_
  refine r_get (ref := "SpanMover$NumberRow") S9 w ha rfl (by decide +kernel) 1 (by decide) (by decide +kernel) (Or.inr (by decide +kernel)) rfl dX1_narrowed_1 ?_
  rcases (show k = 0 ∨ k = 1 ∨ k = 2 ∨ k = 3 by omega) with rfl | rfl | rfl | rfl
  · refine lv_tableIn (off := 32) (tgt := 36) hx hb dX1_narrowed_4 (by decide) (by decide) (by decide) (by decide) ?_
    refine lv_lload_n hx hb dX1_narrowed_36 rfl (lv_at hl 1 rfl) ?_
    obtain ⟨v1, ev1⟩ : ∃ z : Int32, Int64.toInt32 v = z := ⟨_, rfl⟩
    refine lv_l2i (v := v1) hx hb dX1_narrowed_37 ev1 ?_
    obtain ⟨v2, ev2⟩ : ∃ z : Int64, Int32.toInt64 v1 = z := ⟨_, rfl⟩
    refine lv_i2l (v := v2) hx hb dX1_narrowed_38 ev2 ?_
    exact e_l S9 hr hlk (by subst_vars; rfl) dX1_narrowed_39
  · refine lv_tableIn (off := 45) (tgt := 49) hx hb dX1_narrowed_4 (by decide) (by decide) (by decide) (by decide) ?_
    refine lv_lload_n hx hb dX1_narrowed_49 rfl (lv_at hl 1 rfl) ?_
    exact e_l S9 hr hlk (by subst_vars; rfl) dX1_narrowed_50
  · refine lv_tableIn (off := 36) (tgt := 40) hx hb dX1_narrowed_4 (by decide) (by decide) (by decide) (by decide) ?_
    refine lv_lload_n hx hb dX1_narrowed_40 rfl (lv_at hl 1 rfl) ?_
    obtain ⟨v3, ev3⟩ : ∃ z : Int32, Int64.toInt32 v = z := ⟨_, rfl⟩
    refine lv_l2i (v := v3) hx hb dX1_narrowed_41 ev3 ?_
    obtain ⟨v4, ev4⟩ : ∃ z : Int32, (Int32.toInt8 v3).toInt32 = z := ⟨_, rfl⟩
    refine lv_i2b (v := v4) hx hb dX1_narrowed_42 ev4 ?_
    obtain ⟨v5, ev5⟩ : ∃ z : Int64, Int32.toInt64 v4 = z := ⟨_, rfl⟩
    refine lv_i2l (v := v5) hx hb dX1_narrowed_43 ev5 ?_
    exact e_l S9 hr hlk (by subst_vars; rfl) dX1_narrowed_44
  · refine lv_tableIn (off := 41) (tgt := 45) hx hb dX1_narrowed_4 (by decide) (by decide) (by decide) (by decide) ?_
    refine lv_lload_n hx hb dX1_narrowed_45 rfl (lv_at hl 1 rfl) ?_
    refine lv_l2d hx hb dX1_narrowed_46 ?_
    refine lv_d2l hx hb dX1_narrowed_47 ?_
    refine lv_topl (fun v6 ev6 => ?_)
    exact e_l S9 hr hlk (by subst_vars; rfl) dX1_narrowed_48

set_option maxHeartbeats 4000000 in
set_option maxRecDepth 100000 in
theorem c_isFitFor_N (l : Launch) {G : Gt} {ws : va_W} (sz : Nat) {n k a b : Nat} (ha : hp ws a (.inr (1, [.int (nI n), .int (nI k), .ref b]))) : Met l yX2_isFitFor wsX2_isFitFor ({ frames := 0, cells := 0, slots := 0, locals := 0 } : Room) (Pw G [.ref a, .null] ws sz) (vp_Si (fun r : Int32 => r = 1)) 0 0 (fun _ => False) := by
  refine Met_pw (cc := cX2_isFitFor) (maxL := 2) (ret := (some .boolean)) (by decide) rfl (Nat.le_of_ble_eq_true rfl) ?_
  intro p e s m below meth c ls hsz S9 hr hlk hnm w hl
  subst hsz
  replace S9 : CallFix p m c cX2_isFitFor 2 s _ wsX2_isFitFor RX2 := S9
  have hx := S9.1
  have hb := S9.2.1
  have hown := S9.2.2.2.1
  have hts := S9.2.2.2.2
  replace hl : lv_has ls 2 [(0, .ref a), (1, .null)] := hl
  refine lv_aload_nN hx hb dX2_isFitFor_0 rfl (lv_at hl 1 rfl) ?_
  refine lv_ifnonnullN hx hb dX2_isFitFor_1 ?_
  refine lv_iconst (v := 1) hx hb dX2_isFitFor_4 (by decide) ?_
  exact e_z S9 hr hlk (by first | exact Or.inl rfl | exact Or.inr rfl) (rfl) dX2_isFitFor_5

set_option maxHeartbeats 4000000 in
set_option maxRecDepth 100000 in
theorem c_isFitFor_0 (l : Launch) {G : Gt} {ws : va_W} (sz : Nat) {n k a b : Nat} (ha : hp ws a (.inr (1, [.int (nI n), .int (nI k), .ref b]))) (hk : 4 ≤ k) (hk6 : k ≤ 6) {n9 k9 a9 b9 : Nat} {dk9 : Int32} {kd9 : Int64} (ha9 : hp ws a9 (.inr (0, [.int (nI n9), .int (nI k9), .ref b9, .int dk9, .long kd9]))) (h9 : k9 ≤ 3) : Met l yX2_isFitFor wsX2_isFitFor ({ frames := 0, cells := 0, slots := 0, locals := 0 } : Room) (Pw G [.ref a, .ref a9] ws sz) (vp_Si (fun r : Int32 => (fitK k k9 → r = 1) ∧ (¬ fitK k k9 → r = 0))) 0 0 (fun _ => False) := by
  refine Met_pw (cc := cX2_isFitFor) (maxL := 2) (ret := (some .boolean)) (by decide) rfl (Nat.le_of_ble_eq_true rfl) ?_
  intro p e s m below meth c ls hsz S9 hr hlk hnm w hl
  subst hsz
  replace S9 : CallFix p m c cX2_isFitFor 2 s _ wsX2_isFitFor RX2 := S9
  have hx := S9.1
  have hb := S9.2.1
  have hown := S9.2.2.2.1
  have hts := S9.2.2.2.2
  replace hl : lv_has ls 2 [(0, .ref a), (1, .ref a9)] := hl
  refine lv_aload_n hx hb dX2_isFitFor_0 rfl (lv_at hl 1 rfl) ?_
  refine lv_ifnonnull (tgt := 6) hx hb dX2_isFitFor_1 (by decide) ?_
  refine lv_aload_n hx hb dX2_isFitFor_6 rfl (lv_at hl 0 rfl) ?_
  refine r_get (ref := "SpanMover$ObjectRow") S9 w ha rfl (by decide +kernel) 1 (by decide) (by decide +kernel) (Or.inr (by decide +kernel)) rfl dX2_isFitFor_7 ?_
  rcases (show k = 4 ∨ k = 5 ∨ k = 6 by omega) with rfl | rfl | rfl
  · refine lv_lookup (off := 26) (tgt := 36) hx hb dX2_isFitFor_10 (by decide) (by decide) (by decide) ?_
    refine lv_aload_n hx hb dX2_isFitFor_36 rfl (lv_at hl 1 rfl) ?_
    refine r_get (ref := "SpanMover$Item") S9 w ha9 rfl (by decide +kernel) 1 (by decide) (by decide +kernel) (Or.inl rfl) rfl dX2_isFitFor_37 ?_
    refine lv_if_ne (tgt := 47) hx hb dX2_isFitFor_40 (by decide) (fun c_40 => ?_) (fun c_40 => ?_)
    · refine lv_iconst (v := 0) hx hb dX2_isFitFor_47 (by decide) ?_
      exact e_z S9 hr hlk (by first | exact Or.inl rfl | exact Or.inr rfl) (by have h99 : k9 ≤ 8 := (by omega); simp only [nIe0 h99, nIe7 h99, nIe8 h99] at c_40; simp [fitK]; omega) dX2_isFitFor_48
    · refine lv_iconst (v := 1) hx hb dX2_isFitFor_43 (by decide) ?_
      refine lv_goto (tgt := 48) hx hb dX2_isFitFor_44 (by decide) ?_
      exact e_z S9 hr hlk (by first | exact Or.inl rfl | exact Or.inr rfl) (by have h99 : k9 ≤ 8 := (by omega); simp only [nIe0 h99, nIe7 h99, nIe8 h99] at c_40; simp [fitK]; omega) dX2_isFitFor_48
  · refine lv_lookup (off := 39) (tgt := 49) hx hb dX2_isFitFor_10 (by decide) (by decide) (by decide) ?_
    refine lv_aload_n hx hb dX2_isFitFor_49 rfl (lv_at hl 1 rfl) ?_
    refine r_get (ref := "SpanMover$Item") S9 w ha9 rfl (by decide +kernel) 1 (by decide) (by decide +kernel) (Or.inl rfl) rfl dX2_isFitFor_50 ?_
    refine lv_bipush (v := 7) hx hb dX2_isFitFor_53 (by decide) ?_
    refine lv_icmp_eq (tgt := 67) hx hb dX2_isFitFor_55 (by decide) (fun c_55 => ?_) (fun c_55 => ?_)
    · refine lv_iconst (v := 1) hx hb dX2_isFitFor_67 (by decide) ?_
      refine lv_goto (tgt := 72) hx hb dX2_isFitFor_68 (by decide) ?_
      exact e_z S9 hr hlk (by first | exact Or.inl rfl | exact Or.inr rfl) (by have h99 : k9 ≤ 8 := (by omega); simp only [nIe0 h99, nIe7 h99, nIe8 h99] at c_55; simp [fitK]; omega) dX2_isFitFor_72
    · refine lv_aload_n hx hb dX2_isFitFor_58 rfl (lv_at hl 1 rfl) ?_
      refine r_get (ref := "SpanMover$Item") S9 w ha9 rfl (by decide +kernel) 1 (by decide) (by decide +kernel) (Or.inl rfl) rfl dX2_isFitFor_59 ?_
      refine lv_bipush (v := 8) hx hb dX2_isFitFor_62 (by decide) ?_
      refine lv_icmp_ne (tgt := 71) hx hb dX2_isFitFor_64 (by decide) (fun c_64 => ?_) (fun c_64 => ?_)
      · refine lv_iconst (v := 0) hx hb dX2_isFitFor_71 (by decide) ?_
        exact e_z S9 hr hlk (by first | exact Or.inl rfl | exact Or.inr rfl) (by have h99 : k9 ≤ 8 := (by omega); simp only [nIe0 h99, nIe7 h99, nIe8 h99] at c_55 c_64; simp [fitK]; omega) dX2_isFitFor_72
      · refine lv_iconst (v := 1) hx hb dX2_isFitFor_67 (by decide) ?_
        refine lv_goto (tgt := 72) hx hb dX2_isFitFor_68 (by decide) ?_
        exact e_z S9 hr hlk (by first | exact Or.inl rfl | exact Or.inr rfl) (by have h99 : k9 ≤ 8 := (by omega); simp only [nIe0 h99, nIe7 h99, nIe8 h99] at c_55 c_64; simp [fitK]; omega) dX2_isFitFor_72
  · refine lv_lookup (off := 63) (tgt := 73) hx hb dX2_isFitFor_10 (by decide) (by decide) (by decide) ?_
    refine lv_aload_n hx hb dX2_isFitFor_73 rfl (lv_at hl 1 rfl) ?_
    refine r_get (ref := "SpanMover$Item") S9 w ha9 rfl (by decide +kernel) 1 (by decide) (by decide +kernel) (Or.inl rfl) rfl dX2_isFitFor_74 ?_
    refine lv_bipush (v := 8) hx hb dX2_isFitFor_77 (by decide) ?_
    refine lv_icmp_ne (tgt := 86) hx hb dX2_isFitFor_79 (by decide) (fun c_79 => ?_) (fun c_79 => ?_)
    · refine lv_iconst (v := 0) hx hb dX2_isFitFor_86 (by decide) ?_
      exact e_z S9 hr hlk (by first | exact Or.inl rfl | exact Or.inr rfl) (by have h99 : k9 ≤ 8 := (by omega); simp only [nIe0 h99, nIe7 h99, nIe8 h99] at c_79; simp [fitK]; omega) dX2_isFitFor_87
    · refine lv_iconst (v := 1) hx hb dX2_isFitFor_82 (by decide) ?_
      refine lv_goto (tgt := 87) hx hb dX2_isFitFor_83 (by decide) ?_
      exact e_z S9 hr hlk (by first | exact Or.inl rfl | exact Or.inr rfl) (by have h99 : k9 ≤ 8 := (by omega); simp only [nIe0 h99, nIe7 h99, nIe8 h99] at c_79; simp [fitK]; omega) dX2_isFitFor_87

set_option maxHeartbeats 4000000 in
set_option maxRecDepth 100000 in
theorem c_isFitFor_1 (l : Launch) {G : Gt} {ws : va_W} (sz : Nat) {n k a b : Nat} (ha : hp ws a (.inr (1, [.int (nI n), .int (nI k), .ref b]))) (hk : 4 ≤ k) (hk6 : k ≤ 6) {n9 k9 a9 b9 : Nat} (ha9 : hp ws a9 (.inr (1, [.int (nI n9), .int (nI k9), .ref b9]))) (h9 : 4 ≤ k9) (h9l : k9 ≤ 6) : Met l yX2_isFitFor wsX2_isFitFor ({ frames := 0, cells := 0, slots := 0, locals := 0 } : Room) (Pw G [.ref a, .ref a9] ws sz) (vp_Si (fun r : Int32 => (fitK k k9 → r = 1) ∧ (¬ fitK k k9 → r = 0))) 0 0 (fun _ => False) := by
  refine Met_pw (cc := cX2_isFitFor) (maxL := 2) (ret := (some .boolean)) (by decide) rfl (Nat.le_of_ble_eq_true rfl) ?_
  intro p e s m below meth c ls hsz S9 hr hlk hnm w hl
  subst hsz
  replace S9 : CallFix p m c cX2_isFitFor 2 s _ wsX2_isFitFor RX2 := S9
  have hx := S9.1
  have hb := S9.2.1
  have hown := S9.2.2.2.1
  have hts := S9.2.2.2.2
  replace hl : lv_has ls 2 [(0, .ref a), (1, .ref a9)] := hl
  refine lv_aload_n hx hb dX2_isFitFor_0 rfl (lv_at hl 1 rfl) ?_
  refine lv_ifnonnull (tgt := 6) hx hb dX2_isFitFor_1 (by decide) ?_
  refine lv_aload_n hx hb dX2_isFitFor_6 rfl (lv_at hl 0 rfl) ?_
  refine r_get (ref := "SpanMover$ObjectRow") S9 w ha rfl (by decide +kernel) 1 (by decide) (by decide +kernel) (Or.inr (by decide +kernel)) rfl dX2_isFitFor_7 ?_
  rcases (show k = 4 ∨ k = 5 ∨ k = 6 by omega) with rfl | rfl | rfl
  · refine lv_lookup (off := 26) (tgt := 36) hx hb dX2_isFitFor_10 (by decide) (by decide) (by decide) ?_
    refine lv_aload_n hx hb dX2_isFitFor_36 rfl (lv_at hl 1 rfl) ?_
    refine r_get (ref := "SpanMover$Item") S9 w ha9 rfl (by decide +kernel) 1 (by decide) (by decide +kernel) (Or.inl rfl) rfl dX2_isFitFor_37 ?_
    refine lv_if_ne (tgt := 47) hx hb dX2_isFitFor_40 (by decide) (fun c_40 => ?_) (fun c_40 => ?_)
    · refine lv_iconst (v := 0) hx hb dX2_isFitFor_47 (by decide) ?_
      exact e_z S9 hr hlk (by first | exact Or.inl rfl | exact Or.inr rfl) (by have h99 : k9 ≤ 8 := (by omega); simp only [nIe0 h99, nIe7 h99, nIe8 h99] at c_40; simp [fitK]; omega) dX2_isFitFor_48
    · refine lv_iconst (v := 1) hx hb dX2_isFitFor_43 (by decide) ?_
      refine lv_goto (tgt := 48) hx hb dX2_isFitFor_44 (by decide) ?_
      exact e_z S9 hr hlk (by first | exact Or.inl rfl | exact Or.inr rfl) (by have h99 : k9 ≤ 8 := (by omega); simp only [nIe0 h99, nIe7 h99, nIe8 h99] at c_40; simp [fitK]; omega) dX2_isFitFor_48
  · refine lv_lookup (off := 39) (tgt := 49) hx hb dX2_isFitFor_10 (by decide) (by decide) (by decide) ?_
    refine lv_aload_n hx hb dX2_isFitFor_49 rfl (lv_at hl 1 rfl) ?_
    refine r_get (ref := "SpanMover$Item") S9 w ha9 rfl (by decide +kernel) 1 (by decide) (by decide +kernel) (Or.inl rfl) rfl dX2_isFitFor_50 ?_
    refine lv_bipush (v := 7) hx hb dX2_isFitFor_53 (by decide) ?_
    refine lv_icmp_eq (tgt := 67) hx hb dX2_isFitFor_55 (by decide) (fun c_55 => ?_) (fun c_55 => ?_)
    · refine lv_iconst (v := 1) hx hb dX2_isFitFor_67 (by decide) ?_
      refine lv_goto (tgt := 72) hx hb dX2_isFitFor_68 (by decide) ?_
      exact e_z S9 hr hlk (by first | exact Or.inl rfl | exact Or.inr rfl) (by have h99 : k9 ≤ 8 := (by omega); simp only [nIe0 h99, nIe7 h99, nIe8 h99] at c_55; simp [fitK]; omega) dX2_isFitFor_72
    · refine lv_aload_n hx hb dX2_isFitFor_58 rfl (lv_at hl 1 rfl) ?_
      refine r_get (ref := "SpanMover$Item") S9 w ha9 rfl (by decide +kernel) 1 (by decide) (by decide +kernel) (Or.inl rfl) rfl dX2_isFitFor_59 ?_
      refine lv_bipush (v := 8) hx hb dX2_isFitFor_62 (by decide) ?_
      refine lv_icmp_ne (tgt := 71) hx hb dX2_isFitFor_64 (by decide) (fun c_64 => ?_) (fun c_64 => ?_)
      · refine lv_iconst (v := 0) hx hb dX2_isFitFor_71 (by decide) ?_
        exact e_z S9 hr hlk (by first | exact Or.inl rfl | exact Or.inr rfl) (by have h99 : k9 ≤ 8 := (by omega); simp only [nIe0 h99, nIe7 h99, nIe8 h99] at c_55 c_64; simp [fitK]; omega) dX2_isFitFor_72
      · refine lv_iconst (v := 1) hx hb dX2_isFitFor_67 (by decide) ?_
        refine lv_goto (tgt := 72) hx hb dX2_isFitFor_68 (by decide) ?_
        exact e_z S9 hr hlk (by first | exact Or.inl rfl | exact Or.inr rfl) (by have h99 : k9 ≤ 8 := (by omega); simp only [nIe0 h99, nIe7 h99, nIe8 h99] at c_55 c_64; simp [fitK]; omega) dX2_isFitFor_72
  · refine lv_lookup (off := 63) (tgt := 73) hx hb dX2_isFitFor_10 (by decide) (by decide) (by decide) ?_
    refine lv_aload_n hx hb dX2_isFitFor_73 rfl (lv_at hl 1 rfl) ?_
    refine r_get (ref := "SpanMover$Item") S9 w ha9 rfl (by decide +kernel) 1 (by decide) (by decide +kernel) (Or.inl rfl) rfl dX2_isFitFor_74 ?_
    refine lv_bipush (v := 8) hx hb dX2_isFitFor_77 (by decide) ?_
    refine lv_icmp_ne (tgt := 86) hx hb dX2_isFitFor_79 (by decide) (fun c_79 => ?_) (fun c_79 => ?_)
    · refine lv_iconst (v := 0) hx hb dX2_isFitFor_86 (by decide) ?_
      exact e_z S9 hr hlk (by first | exact Or.inl rfl | exact Or.inr rfl) (by have h99 : k9 ≤ 8 := (by omega); simp only [nIe0 h99, nIe7 h99, nIe8 h99] at c_79; simp [fitK]; omega) dX2_isFitFor_87
    · refine lv_iconst (v := 1) hx hb dX2_isFitFor_82 (by decide) ?_
      refine lv_goto (tgt := 87) hx hb dX2_isFitFor_83 (by decide) ?_
      exact e_z S9 hr hlk (by first | exact Or.inl rfl | exact Or.inr rfl) (by have h99 : k9 ≤ 8 := (by omega); simp only [nIe0 h99, nIe7 h99, nIe8 h99] at c_79; simp [fitK]; omega) dX2_isFitFor_87

set_option maxHeartbeats 4000000 in
set_option maxRecDepth 100000 in
theorem c_isFitFor_2 (l : Launch) {G : Gt} {ws : va_W} (sz : Nat) {n k a b : Nat} (ha : hp ws a (.inr (1, [.int (nI n), .int (nI k), .ref b]))) (hk : 4 ≤ k) (hk6 : k ≤ 6) {k9 a9 : Nat} {v9 : Int32} (ha9 : hp ws a9 (.inr (2, [.int (nI k9), .int v9]))) (h9 : 7 ≤ k9) (h9l : k9 ≤ 8) : Met l yX2_isFitFor wsX2_isFitFor ({ frames := 0, cells := 0, slots := 0, locals := 0 } : Room) (Pw G [.ref a, .ref a9] ws sz) (vp_Si (fun r : Int32 => (fitK k k9 → r = 1) ∧ (¬ fitK k k9 → r = 0))) 0 0 (fun _ => False) := by
  refine Met_pw (cc := cX2_isFitFor) (maxL := 2) (ret := (some .boolean)) (by decide) rfl (Nat.le_of_ble_eq_true rfl) ?_
  intro p e s m below meth c ls hsz S9 hr hlk hnm w hl
  subst hsz
  replace S9 : CallFix p m c cX2_isFitFor 2 s _ wsX2_isFitFor RX2 := S9
  have hx := S9.1
  have hb := S9.2.1
  have hown := S9.2.2.2.1
  have hts := S9.2.2.2.2
  replace hl : lv_has ls 2 [(0, .ref a), (1, .ref a9)] := hl
  refine lv_aload_n hx hb dX2_isFitFor_0 rfl (lv_at hl 1 rfl) ?_
  refine lv_ifnonnull (tgt := 6) hx hb dX2_isFitFor_1 (by decide) ?_
  refine lv_aload_n hx hb dX2_isFitFor_6 rfl (lv_at hl 0 rfl) ?_
  refine r_get (ref := "SpanMover$ObjectRow") S9 w ha rfl (by decide +kernel) 1 (by decide) (by decide +kernel) (Or.inr (by decide +kernel)) rfl dX2_isFitFor_7 ?_
  rcases (show k = 4 ∨ k = 5 ∨ k = 6 by omega) with rfl | rfl | rfl
  · refine lv_lookup (off := 26) (tgt := 36) hx hb dX2_isFitFor_10 (by decide) (by decide) (by decide) ?_
    refine lv_aload_n hx hb dX2_isFitFor_36 rfl (lv_at hl 1 rfl) ?_
    refine r_get (ref := "SpanMover$Item") S9 w ha9 rfl (by decide +kernel) 0 (by decide) (by decide +kernel) (Or.inl rfl) rfl dX2_isFitFor_37 ?_
    refine lv_if_ne (tgt := 47) hx hb dX2_isFitFor_40 (by decide) (fun c_40 => ?_) (fun c_40 => ?_)
    · refine lv_iconst (v := 0) hx hb dX2_isFitFor_47 (by decide) ?_
      exact e_z S9 hr hlk (by first | exact Or.inl rfl | exact Or.inr rfl) (by have h99 : k9 ≤ 8 := (by omega); simp only [nIe0 h99, nIe7 h99, nIe8 h99] at c_40; simp [fitK]; omega) dX2_isFitFor_48
    · refine lv_iconst (v := 1) hx hb dX2_isFitFor_43 (by decide) ?_
      refine lv_goto (tgt := 48) hx hb dX2_isFitFor_44 (by decide) ?_
      exact e_z S9 hr hlk (by first | exact Or.inl rfl | exact Or.inr rfl) (by have h99 : k9 ≤ 8 := (by omega); simp only [nIe0 h99, nIe7 h99, nIe8 h99] at c_40; simp [fitK]; omega) dX2_isFitFor_48
  · refine lv_lookup (off := 39) (tgt := 49) hx hb dX2_isFitFor_10 (by decide) (by decide) (by decide) ?_
    refine lv_aload_n hx hb dX2_isFitFor_49 rfl (lv_at hl 1 rfl) ?_
    refine r_get (ref := "SpanMover$Item") S9 w ha9 rfl (by decide +kernel) 0 (by decide) (by decide +kernel) (Or.inl rfl) rfl dX2_isFitFor_50 ?_
    refine lv_bipush (v := 7) hx hb dX2_isFitFor_53 (by decide) ?_
    refine lv_icmp_eq (tgt := 67) hx hb dX2_isFitFor_55 (by decide) (fun c_55 => ?_) (fun c_55 => ?_)
    · refine lv_iconst (v := 1) hx hb dX2_isFitFor_67 (by decide) ?_
      refine lv_goto (tgt := 72) hx hb dX2_isFitFor_68 (by decide) ?_
      exact e_z S9 hr hlk (by first | exact Or.inl rfl | exact Or.inr rfl) (by have h99 : k9 ≤ 8 := (by omega); simp only [nIe0 h99, nIe7 h99, nIe8 h99] at c_55; simp [fitK]; omega) dX2_isFitFor_72
    · refine lv_aload_n hx hb dX2_isFitFor_58 rfl (lv_at hl 1 rfl) ?_
      refine r_get (ref := "SpanMover$Item") S9 w ha9 rfl (by decide +kernel) 0 (by decide) (by decide +kernel) (Or.inl rfl) rfl dX2_isFitFor_59 ?_
      refine lv_bipush (v := 8) hx hb dX2_isFitFor_62 (by decide) ?_
      refine lv_icmp_ne (tgt := 71) hx hb dX2_isFitFor_64 (by decide) (fun c_64 => ?_) (fun c_64 => ?_)
      · refine lv_iconst (v := 0) hx hb dX2_isFitFor_71 (by decide) ?_
        exact e_z S9 hr hlk (by first | exact Or.inl rfl | exact Or.inr rfl) (by have h99 : k9 ≤ 8 := (by omega); simp only [nIe0 h99, nIe7 h99, nIe8 h99] at c_55 c_64; simp [fitK]; omega) dX2_isFitFor_72
      · refine lv_iconst (v := 1) hx hb dX2_isFitFor_67 (by decide) ?_
        refine lv_goto (tgt := 72) hx hb dX2_isFitFor_68 (by decide) ?_
        exact e_z S9 hr hlk (by first | exact Or.inl rfl | exact Or.inr rfl) (by have h99 : k9 ≤ 8 := (by omega); simp only [nIe0 h99, nIe7 h99, nIe8 h99] at c_55 c_64; simp [fitK]; omega) dX2_isFitFor_72
  · refine lv_lookup (off := 63) (tgt := 73) hx hb dX2_isFitFor_10 (by decide) (by decide) (by decide) ?_
    refine lv_aload_n hx hb dX2_isFitFor_73 rfl (lv_at hl 1 rfl) ?_
    refine r_get (ref := "SpanMover$Item") S9 w ha9 rfl (by decide +kernel) 0 (by decide) (by decide +kernel) (Or.inl rfl) rfl dX2_isFitFor_74 ?_
    refine lv_bipush (v := 8) hx hb dX2_isFitFor_77 (by decide) ?_
    refine lv_icmp_ne (tgt := 86) hx hb dX2_isFitFor_79 (by decide) (fun c_79 => ?_) (fun c_79 => ?_)
    · refine lv_iconst (v := 0) hx hb dX2_isFitFor_86 (by decide) ?_
      exact e_z S9 hr hlk (by first | exact Or.inl rfl | exact Or.inr rfl) (by have h99 : k9 ≤ 8 := (by omega); simp only [nIe0 h99, nIe7 h99, nIe8 h99] at c_79; simp [fitK]; omega) dX2_isFitFor_87
    · refine lv_iconst (v := 1) hx hb dX2_isFitFor_82 (by decide) ?_
      refine lv_goto (tgt := 87) hx hb dX2_isFitFor_83 (by decide) ?_
      exact e_z S9 hr hlk (by first | exact Or.inl rfl | exact Or.inr rfl) (by have h99 : k9 ≤ 8 := (by omega); simp only [nIe0 h99, nIe7 h99, nIe8 h99] at c_79; simp [fitK]; omega) dX2_isFitFor_87

set_option maxHeartbeats 4000000 in
set_option maxRecDepth 100000 in
theorem c_toldAs_N (l : Launch) {G : Gt} {ws : va_W} (sz : Nat)  : Met l yX5_toldAs wsX5_toldAs ({ frames := 0, cells := 0, slots := 0, locals := 0 } : Room) (Pw G [.null] ws sz) (vp_Sl (fun r : Int64 => r = told none)) 0 0 (fun _ => False) := by
  refine Met_pw (cc := cX5_toldAs) (maxL := 2) (ret := (some .long)) (by decide) rfl (Nat.le_of_ble_eq_true rfl) ?_
  intro p e s m below meth c ls hsz S9 hr hlk hnm w hl
  subst hsz
  replace S9 : CallFix p m c cX5_toldAs 2 s _ wsX5_toldAs RX5 := S9
  have hx := S9.1
  have hb := S9.2.1
  have hown := S9.2.2.2.1
  have hts := S9.2.2.2.2
  replace hl : lv_has ls 2 [(0, .null)] := hl
  refine lv_aload_nN hx hb dX5_toldAs_0 rfl (lv_at hl 0 rfl) ?_
  refine lv_instN hx hb dX5_toldAs_1 ?_
  refine lv_if_eq (tgt := 32) hx hb dX5_toldAs_4 (by decide) (fun c_4 => ?_) (fun c_4 => absurd c_4 (by decide))
  refine lv_aload_nN hx hb dX5_toldAs_32 rfl (lv_at hl 0 rfl) ?_
  refine lv_instN hx hb dX5_toldAs_33 ?_
  refine lv_if_eq (tgt := 50) hx hb dX5_toldAs_36 (by decide) (fun c_36 => ?_) (fun c_36 => absurd c_36 (by decide))
  refine lv_ldc2 (v := (-1)) hx hb hown (hts (.constantLong RX5 141 (-1)) (by decide +kernel)) dX5_toldAs_50 ?_
  exact e_l S9 hr hlk (by subst_vars; rfl) dX5_toldAs_53

set_option maxHeartbeats 4000000 in
set_option maxRecDepth 100000 in
theorem c_toldAs_0 (l : Launch) {G : Gt} {ws : va_W} (sz : Nat) {n k a b : Nat} {dk : Int32} {kd : Int64} (ha : hp ws a (.inr (0, [.int (nI n), .int (nI k), .ref b, .int dk, .long kd]))) : Met l yX5_toldAs wsX5_toldAs ({ frames := 0, cells := 0, slots := 0, locals := 0 } : Room) (Pw G [.ref a] ws sz) (vp_Sl (fun r : Int64 => r = (nI n).toInt64)) 0 0 (fun _ => False) := by
  refine Met_pw (cc := cX5_toldAs) (maxL := 2) (ret := (some .long)) (by decide) rfl (Nat.le_of_ble_eq_true rfl) ?_
  intro p e s m below meth c ls hsz S9 hr hlk hnm w hl
  subst hsz
  replace S9 : CallFix p m c cX5_toldAs 2 s _ wsX5_toldAs RX5 := S9
  have hx := S9.1
  have hb := S9.2.1
  have hown := S9.2.2.2.1
  have hts := S9.2.2.2.2
  replace hl : lv_has ls 2 [(0, .ref a)] := hl
  refine lv_aload_n hx hb dX5_toldAs_0 rfl (lv_at hl 0 rfl) ?_
  refine r_inst S9 w ha (by decide) 2 (by decide) (by decide +kernel) (v := 0) rfl dX5_toldAs_1 ?_
  refine lv_if_eq (tgt := 32) hx hb dX5_toldAs_4 (by decide) (fun c_4 => ?_) (fun c_4 => absurd c_4 (by decide))
  refine lv_aload_n hx hb dX5_toldAs_32 rfl (lv_at hl 0 rfl) ?_
  refine r_inst S9 w ha (by decide) 3 (by decide) (by decide +kernel) (v := 1) rfl dX5_toldAs_33 ?_
  refine lv_if_eq (tgt := 50) hx hb dX5_toldAs_36 (by decide) (fun c_36 => absurd c_36 (by decide)) (fun c_36 => ?_)
  refine lv_aload_n hx hb dX5_toldAs_39 rfl (lv_at hl 0 rfl) ?_
  refine r_cast S9 w ha (by decide) 3 (by decide) rfl (by decide +kernel) dX5_toldAs_40 ?_
  refine lv_astore_n (lv' := [(1, .ref a), (0, .ref a)]) hx hb dX5_toldAs_43 rfl hl (by decide) rfl (fun ls hl => ?_)
  refine lv_aload_n hx hb dX5_toldAs_44 rfl (lv_at hl 0 rfl) ?_
  refine r_get (ref := "SpanMover$Row") S9 w ha rfl (by decide +kernel) 0 (by decide) (by decide +kernel) (Or.inl rfl) rfl dX5_toldAs_45 ?_
  obtain ⟨v1, ev1⟩ : ∃ z : Int64, Int32.toInt64 (nI n) = z := ⟨_, rfl⟩
  refine lv_i2l (v := v1) hx hb dX5_toldAs_48 ev1 ?_
  exact e_l S9 hr hlk (by subst_vars; rfl) dX5_toldAs_49

set_option maxHeartbeats 4000000 in
set_option maxRecDepth 100000 in
theorem c_toldAs_1 (l : Launch) {G : Gt} {ws : va_W} (sz : Nat) {n k a b : Nat} (ha : hp ws a (.inr (1, [.int (nI n), .int (nI k), .ref b]))) : Met l yX5_toldAs wsX5_toldAs ({ frames := 0, cells := 0, slots := 0, locals := 0 } : Room) (Pw G [.ref a] ws sz) (vp_Sl (fun r : Int64 => r = (nI n).toInt64)) 0 0 (fun _ => False) := by
  refine Met_pw (cc := cX5_toldAs) (maxL := 2) (ret := (some .long)) (by decide) rfl (Nat.le_of_ble_eq_true rfl) ?_
  intro p e s m below meth c ls hsz S9 hr hlk hnm w hl
  subst hsz
  replace S9 : CallFix p m c cX5_toldAs 2 s _ wsX5_toldAs RX5 := S9
  have hx := S9.1
  have hb := S9.2.1
  have hown := S9.2.2.2.1
  have hts := S9.2.2.2.2
  replace hl : lv_has ls 2 [(0, .ref a)] := hl
  refine lv_aload_n hx hb dX5_toldAs_0 rfl (lv_at hl 0 rfl) ?_
  refine r_inst S9 w ha (by decide) 2 (by decide) (by decide +kernel) (v := 0) rfl dX5_toldAs_1 ?_
  refine lv_if_eq (tgt := 32) hx hb dX5_toldAs_4 (by decide) (fun c_4 => ?_) (fun c_4 => absurd c_4 (by decide))
  refine lv_aload_n hx hb dX5_toldAs_32 rfl (lv_at hl 0 rfl) ?_
  refine r_inst S9 w ha (by decide) 3 (by decide) (by decide +kernel) (v := 1) rfl dX5_toldAs_33 ?_
  refine lv_if_eq (tgt := 50) hx hb dX5_toldAs_36 (by decide) (fun c_36 => absurd c_36 (by decide)) (fun c_36 => ?_)
  refine lv_aload_n hx hb dX5_toldAs_39 rfl (lv_at hl 0 rfl) ?_
  refine r_cast S9 w ha (by decide) 3 (by decide) rfl (by decide +kernel) dX5_toldAs_40 ?_
  refine lv_astore_n (lv' := [(1, .ref a), (0, .ref a)]) hx hb dX5_toldAs_43 rfl hl (by decide) rfl (fun ls hl => ?_)
  refine lv_aload_n hx hb dX5_toldAs_44 rfl (lv_at hl 0 rfl) ?_
  refine r_get (ref := "SpanMover$Row") S9 w ha rfl (by decide +kernel) 0 (by decide) (by decide +kernel) (Or.inl rfl) rfl dX5_toldAs_45 ?_
  obtain ⟨v1, ev1⟩ : ∃ z : Int64, Int32.toInt64 (nI n) = z := ⟨_, rfl⟩
  refine lv_i2l (v := v1) hx hb dX5_toldAs_48 ev1 ?_
  exact e_l S9 hr hlk (by subst_vars; rfl) dX5_toldAs_49

set_option maxHeartbeats 4000000 in
set_option maxRecDepth 100000 in
theorem c_toldAs_2 (l : Launch) {G : Gt} {ws : va_W} (sz : Nat) {k a : Nat} {v : Int32} (ha : hp ws a (.inr (2, [.int (nI k), .int v]))) : Met l yX5_toldAs wsX5_toldAs ({ frames := 0, cells := 0, slots := 0, locals := 0 } : Room) (Pw G [.ref a] ws sz) (vp_Sl (fun r : Int64 => r = (nI k).toInt64 * 4294967296 + (v.toInt64 &&& 4294967295))) 0 0 (fun _ => False) := by
  refine Met_pw (cc := cX5_toldAs) (maxL := 2) (ret := (some .long)) (by decide) rfl (Nat.le_of_ble_eq_true rfl) ?_
  intro p e s m below meth c ls hsz S9 hr hlk hnm w hl
  subst hsz
  replace S9 : CallFix p m c cX5_toldAs 2 s _ wsX5_toldAs RX5 := S9
  have hx := S9.1
  have hb := S9.2.1
  have hown := S9.2.2.2.1
  have hts := S9.2.2.2.2
  replace hl : lv_has ls 2 [(0, .ref a)] := hl
  refine lv_aload_n hx hb dX5_toldAs_0 rfl (lv_at hl 0 rfl) ?_
  refine r_inst S9 w ha (by decide) 2 (by decide) (by decide +kernel) (v := 1) rfl dX5_toldAs_1 ?_
  refine lv_if_eq (tgt := 32) hx hb dX5_toldAs_4 (by decide) (fun c_4 => absurd c_4 (by decide)) (fun c_4 => ?_)
  refine lv_aload_n hx hb dX5_toldAs_7 rfl (lv_at hl 0 rfl) ?_
  refine r_cast S9 w ha (by decide) 2 (by decide) rfl (by decide +kernel) dX5_toldAs_8 ?_
  refine lv_astore_n (lv' := [(1, .ref a), (0, .ref a)]) hx hb dX5_toldAs_11 rfl hl (by decide) rfl (fun ls hl => ?_)
  refine lv_aload_n hx hb dX5_toldAs_12 rfl (lv_at hl 0 rfl) ?_
  refine r_get (ref := "SpanMover$Thing") S9 w ha rfl (by decide +kernel) 0 (by decide) (by decide +kernel) (Or.inr (by decide +kernel)) rfl dX5_toldAs_13 ?_
  obtain ⟨v1, ev1⟩ : ∃ z : Int64, Int32.toInt64 (nI k) = z := ⟨_, rfl⟩
  refine lv_i2l (v := v1) hx hb dX5_toldAs_16 ev1 ?_
  refine lv_ldc2 (v := 4294967296) hx hb hown (hts (.constantLong RX5 137 (4294967296)) (by decide +kernel)) dX5_toldAs_17 ?_
  refine lv_lmul hx hb dX5_toldAs_20 ?_
  refine lv_topl (fun v2 ev2 => ?_)
  refine lv_aload_n hx hb dX5_toldAs_21 rfl (lv_at hl 0 rfl) ?_
  refine r_get (ref := "SpanMover$Thing") S9 w ha rfl (by decide +kernel) 1 (by decide) (by decide +kernel) (Or.inl rfl) rfl dX5_toldAs_22 ?_
  obtain ⟨v3, ev3⟩ : ∃ z : Int64, Int32.toInt64 v = z := ⟨_, rfl⟩
  refine lv_i2l (v := v3) hx hb dX5_toldAs_25 ev3 ?_
  refine lv_ldc2 (v := 4294967295) hx hb hown (hts (.constantLong RX5 139 (4294967295)) (by decide +kernel)) dX5_toldAs_26 ?_
  refine lv_land hx hb dX5_toldAs_29 ?_
  refine lv_topl (fun v4 ev4 => ?_)
  refine lv_ladd hx hb dX5_toldAs_30 ?_
  refine lv_topl (fun v5 ev5 => ?_)
  exact e_l S9 hr hlk (by subst_vars; rfl) dX5_toldAs_31

set_option maxHeartbeats 4000000 in
set_option maxRecDepth 100000 in
theorem c_refusalAt_N (l : Launch) {G : Gt} {ws : va_W} (sz : Nat) (i lo hi : Int32) : Met l yX5_refusalAt wsX5_refusalAt ({ frames := 1, cells := 0, slots := 0, locals := 21 } : Room) (Pw G [.null, .int i, .int lo, .int hi] ws sz) (vp_Si (fun r : Int32 => r = 1)) 0 0 (fun _ => False) := by
  refine Met_pw (cc := cX5_refusalAt) (maxL := 5) (ret := (some .int)) (by decide) rfl (Nat.le_of_ble_eq_true rfl) ?_
  intro p e s m below meth c ls hsz S9 hr hlk hnm w hl
  subst hsz
  replace S9 : CallFix p m c cX5_refusalAt 5 s _ wsX5_refusalAt RX5 := S9
  have hx := S9.1
  have hb := S9.2.1
  have hown := S9.2.2.2.1
  have hts := S9.2.2.2.2
  replace hl : lv_has ls 5 [(0, .null), (1, .int i), (2, .int lo), (3, .int hi)] := hl
  refine lv_aload_nN hx hb dX5_refusalAt_0 rfl (lv_at hl 0 rfl) ?_
  refine lv_ifnonnullN hx hb dX5_refusalAt_1 ?_
  refine lv_iconst (v := 1) hx hb dX5_refusalAt_4 (by decide) ?_
  exact e_i S9 hr hlk (rfl) dX5_refusalAt_5

set_option maxHeartbeats 4000000 in
set_option maxRecDepth 100000 in
theorem c_refusalAt_0 (l : Launch) {G : Gt} {ws : va_W} (sz : Nat) {n k a b : Nat} {dk : Int32} {kd : Int64} (ha : hp ws a (.inr (0, [.int (nI n), .int (nI k), .ref b, .int dk, .long kd]))) (i lo hi : Int32) : Met l yX5_refusalAt wsX5_refusalAt ({ frames := 1, cells := 0, slots := 0, locals := 21 } : Room) (Pw G [.ref a, .int i, .int lo, .int hi] ws sz) (vp_Si (fun r : Int32 => r = if nI k < lo then 3 else if nI k ≤ hi then (if inE n i then 0 else 4) else 3)) 0 0 (fun _ => False) := by
  refine Met_pw (cc := cX5_refusalAt) (maxL := 5) (ret := (some .int)) (by decide) rfl (Nat.le_of_ble_eq_true rfl) ?_
  intro p e s m below meth c ls hsz S9 hr hlk hnm w hl
  subst hsz
  replace S9 : CallFix p m c cX5_refusalAt 5 s _ wsX5_refusalAt RX5 := S9
  have hx := S9.1
  have hb := S9.2.1
  have hown := S9.2.2.2.1
  have hts := S9.2.2.2.2
  replace hl : lv_has ls 5 [(0, .ref a), (1, .int i), (2, .int lo), (3, .int hi)] := hl
  refine lv_aload_n hx hb dX5_refusalAt_0 rfl (lv_at hl 0 rfl) ?_
  refine lv_ifnonnull (tgt := 6) hx hb dX5_refusalAt_1 (by decide) ?_
  refine lv_aload_n hx hb dX5_refusalAt_6 rfl (lv_at hl 0 rfl) ?_
  refine r_inst S9 w ha (by decide) 3 (by decide) (by decide +kernel) (v := 1) rfl dX5_refusalAt_7 ?_
  refine lv_if_eq (tgt := 22) hx hb dX5_refusalAt_10 (by decide) (fun c_10 => absurd c_10 (by decide)) (fun c_10 => ?_)
  refine lv_aload_n hx hb dX5_refusalAt_13 rfl (lv_at hl 0 rfl) ?_
  refine r_cast S9 w ha (by decide) 3 (by decide) rfl (by decide +kernel) dX5_refusalAt_14 ?_
  refine lv_astore (lv' := [(4, .ref a), (0, .ref a), (1, .int i), (2, .int lo), (3, .int hi)]) hx hb dX5_refusalAt_17 hl (by decide) rfl (fun ls hl => ?_)
  refine lv_goto (tgt := 24) hx hb dX5_refusalAt_19 (by decide) ?_
  refine lv_aload hx hb dX5_refusalAt_24 (lv_at hl 0 rfl) ?_
  refine r_get (ref := "SpanMover$Row") S9 w ha rfl (by decide +kernel) 1 (by decide) (by decide +kernel) (Or.inr (by decide +kernel)) rfl dX5_refusalAt_26 ?_
  refine lv_iload_n hx hb dX5_refusalAt_29 rfl (lv_at hl 3 rfl) ?_
  refine lv_icmp_lt (tgt := 42) hx hb dX5_refusalAt_30 (by decide) (fun c_30 => ?_) (fun c_30 => ?_)
  · refine lv_iconst (v := 3) hx hb dX5_refusalAt_42 (by decide) ?_
    exact e_i S9 hr hlk (by simp [c_30]) dX5_refusalAt_43
  · refine lv_aload hx hb dX5_refusalAt_33 (lv_at hl 0 rfl) ?_
    refine r_get (ref := "SpanMover$Row") S9 w ha rfl (by decide +kernel) 1 (by decide) (by decide +kernel) (Or.inr (by decide +kernel)) rfl dX5_refusalAt_35 ?_
    refine lv_iload_n hx hb dX5_refusalAt_38 rfl (lv_at hl 4 rfl) ?_
    refine lv_icmp_le (tgt := 44) hx hb dX5_refusalAt_39 (by decide) (fun c_39 => ?_) (fun c_39 => ?_)
    · refine lv_aload hx hb dX5_refusalAt_44 (lv_at hl 0 rfl) ?_
      refine lv_iload_n hx hb dX5_refusalAt_46 rfl (lv_at hl 2 rfl) ?_
      refine k_ui S9 w (c_hasElement_0 l _ ha i) ha rfl (va_cwU 1 hts gX5_refusalAt_X3_hasElement_u133X1 rfl rfl rfl rfl (by decide +kernel) ⟨Nat.le_of_ble_eq_true rfl, Nat.le_of_ble_eq_true rfl⟩) rfl hl.1 rfl (Nat.le_of_ble_eq_true rfl) dX5_refusalAt_47 ⟨Nat.le_of_ble_eq_true rfl, Nat.le_of_ble_eq_true rfl⟩ (fun v7 e7 => ?_)
      refine lv_if_eq (tgt := 57) hx hb dX5_refusalAt_50 (by decide) (fun c_50 => ?_) (fun c_50 => ?_)
      · refine lv_iconst (v := 4) hx hb dX5_refusalAt_57 (by decide) ?_
        exact e_i S9 hr hlk (by rw [e7] at c_50; by_cases hE : inE n i <;> simp [hE] at c_50 <;> simp [c_30, c_39, hE]) dX5_refusalAt_58
      · refine lv_iconst (v := 0) hx hb dX5_refusalAt_53 (by decide) ?_
        refine lv_goto (tgt := 58) hx hb dX5_refusalAt_54 (by decide) ?_
        exact e_i S9 hr hlk (by rw [e7] at c_50; by_cases hE : inE n i <;> simp [hE] at c_50 <;> simp [c_30, c_39, hE]) dX5_refusalAt_58
    · refine lv_iconst (v := 3) hx hb dX5_refusalAt_42 (by decide) ?_
      exact e_i S9 hr hlk (by simp [c_30, c_39]) dX5_refusalAt_43

set_option maxHeartbeats 4000000 in
set_option maxRecDepth 100000 in
theorem c_refusalAt_1 (l : Launch) {G : Gt} {ws : va_W} (sz : Nat) {n k a b : Nat} (ha : hp ws a (.inr (1, [.int (nI n), .int (nI k), .ref b]))) (i lo hi : Int32) : Met l yX5_refusalAt wsX5_refusalAt ({ frames := 1, cells := 0, slots := 0, locals := 21 } : Room) (Pw G [.ref a, .int i, .int lo, .int hi] ws sz) (vp_Si (fun r : Int32 => r = if nI k < lo then 3 else if nI k ≤ hi then (if inE n i then 0 else 4) else 3)) 0 0 (fun _ => False) := by
  refine Met_pw (cc := cX5_refusalAt) (maxL := 5) (ret := (some .int)) (by decide) rfl (Nat.le_of_ble_eq_true rfl) ?_
  intro p e s m below meth c ls hsz S9 hr hlk hnm w hl
  subst hsz
  replace S9 : CallFix p m c cX5_refusalAt 5 s _ wsX5_refusalAt RX5 := S9
  have hx := S9.1
  have hb := S9.2.1
  have hown := S9.2.2.2.1
  have hts := S9.2.2.2.2
  replace hl : lv_has ls 5 [(0, .ref a), (1, .int i), (2, .int lo), (3, .int hi)] := hl
  refine lv_aload_n hx hb dX5_refusalAt_0 rfl (lv_at hl 0 rfl) ?_
  refine lv_ifnonnull (tgt := 6) hx hb dX5_refusalAt_1 (by decide) ?_
  refine lv_aload_n hx hb dX5_refusalAt_6 rfl (lv_at hl 0 rfl) ?_
  refine r_inst S9 w ha (by decide) 3 (by decide) (by decide +kernel) (v := 1) rfl dX5_refusalAt_7 ?_
  refine lv_if_eq (tgt := 22) hx hb dX5_refusalAt_10 (by decide) (fun c_10 => absurd c_10 (by decide)) (fun c_10 => ?_)
  refine lv_aload_n hx hb dX5_refusalAt_13 rfl (lv_at hl 0 rfl) ?_
  refine r_cast S9 w ha (by decide) 3 (by decide) rfl (by decide +kernel) dX5_refusalAt_14 ?_
  refine lv_astore (lv' := [(4, .ref a), (0, .ref a), (1, .int i), (2, .int lo), (3, .int hi)]) hx hb dX5_refusalAt_17 hl (by decide) rfl (fun ls hl => ?_)
  refine lv_goto (tgt := 24) hx hb dX5_refusalAt_19 (by decide) ?_
  refine lv_aload hx hb dX5_refusalAt_24 (lv_at hl 0 rfl) ?_
  refine r_get (ref := "SpanMover$Row") S9 w ha rfl (by decide +kernel) 1 (by decide) (by decide +kernel) (Or.inr (by decide +kernel)) rfl dX5_refusalAt_26 ?_
  refine lv_iload_n hx hb dX5_refusalAt_29 rfl (lv_at hl 3 rfl) ?_
  refine lv_icmp_lt (tgt := 42) hx hb dX5_refusalAt_30 (by decide) (fun c_30 => ?_) (fun c_30 => ?_)
  · refine lv_iconst (v := 3) hx hb dX5_refusalAt_42 (by decide) ?_
    exact e_i S9 hr hlk (by simp [c_30]) dX5_refusalAt_43
  · refine lv_aload hx hb dX5_refusalAt_33 (lv_at hl 0 rfl) ?_
    refine r_get (ref := "SpanMover$Row") S9 w ha rfl (by decide +kernel) 1 (by decide) (by decide +kernel) (Or.inr (by decide +kernel)) rfl dX5_refusalAt_35 ?_
    refine lv_iload_n hx hb dX5_refusalAt_38 rfl (lv_at hl 4 rfl) ?_
    refine lv_icmp_le (tgt := 44) hx hb dX5_refusalAt_39 (by decide) (fun c_39 => ?_) (fun c_39 => ?_)
    · refine lv_aload hx hb dX5_refusalAt_44 (lv_at hl 0 rfl) ?_
      refine lv_iload_n hx hb dX5_refusalAt_46 rfl (lv_at hl 2 rfl) ?_
      refine k_ui S9 w (c_hasElement_1 l _ ha i) ha rfl (va_cwU 1 hts gX5_refusalAt_X3_hasElement_u133X2 rfl rfl rfl rfl (by decide +kernel) ⟨Nat.le_of_ble_eq_true rfl, Nat.le_of_ble_eq_true rfl⟩) rfl hl.1 rfl (Nat.le_of_ble_eq_true rfl) dX5_refusalAt_47 ⟨Nat.le_of_ble_eq_true rfl, Nat.le_of_ble_eq_true rfl⟩ (fun v7 e7 => ?_)
      refine lv_if_eq (tgt := 57) hx hb dX5_refusalAt_50 (by decide) (fun c_50 => ?_) (fun c_50 => ?_)
      · refine lv_iconst (v := 4) hx hb dX5_refusalAt_57 (by decide) ?_
        exact e_i S9 hr hlk (by rw [e7] at c_50; by_cases hE : inE n i <;> simp [hE] at c_50 <;> simp [c_30, c_39, hE]) dX5_refusalAt_58
      · refine lv_iconst (v := 0) hx hb dX5_refusalAt_53 (by decide) ?_
        refine lv_goto (tgt := 58) hx hb dX5_refusalAt_54 (by decide) ?_
        exact e_i S9 hr hlk (by rw [e7] at c_50; by_cases hE : inE n i <;> simp [hE] at c_50 <;> simp [c_30, c_39, hE]) dX5_refusalAt_58
    · refine lv_iconst (v := 3) hx hb dX5_refusalAt_42 (by decide) ?_
      exact e_i S9 hr hlk (by simp [c_30, c_39]) dX5_refusalAt_43

set_option maxHeartbeats 4000000 in
set_option maxRecDepth 100000 in
theorem c_refusalAt_2 (l : Launch) {G : Gt} {ws : va_W} (sz : Nat) {k a : Nat} {v : Int32} (ha : hp ws a (.inr (2, [.int (nI k), .int v]))) (i lo hi : Int32) : Met l yX5_refusalAt wsX5_refusalAt ({ frames := 1, cells := 0, slots := 0, locals := 21 } : Room) (Pw G [.ref a, .int i, .int lo, .int hi] ws sz) (vp_Si (fun r : Int32 => r = 2)) 0 0 (fun _ => False) := by
  refine Met_pw (cc := cX5_refusalAt) (maxL := 5) (ret := (some .int)) (by decide) rfl (Nat.le_of_ble_eq_true rfl) ?_
  intro p e s m below meth c ls hsz S9 hr hlk hnm w hl
  subst hsz
  replace S9 : CallFix p m c cX5_refusalAt 5 s _ wsX5_refusalAt RX5 := S9
  have hx := S9.1
  have hb := S9.2.1
  have hown := S9.2.2.2.1
  have hts := S9.2.2.2.2
  replace hl : lv_has ls 5 [(0, .ref a), (1, .int i), (2, .int lo), (3, .int hi)] := hl
  refine lv_aload_n hx hb dX5_refusalAt_0 rfl (lv_at hl 0 rfl) ?_
  refine lv_ifnonnull (tgt := 6) hx hb dX5_refusalAt_1 (by decide) ?_
  refine lv_aload_n hx hb dX5_refusalAt_6 rfl (lv_at hl 0 rfl) ?_
  refine r_inst S9 w ha (by decide) 3 (by decide) (by decide +kernel) (v := 0) rfl dX5_refusalAt_7 ?_
  refine lv_if_eq (tgt := 22) hx hb dX5_refusalAt_10 (by decide) (fun c_10 => ?_) (fun c_10 => absurd c_10 (by decide))
  refine lv_iconst (v := 2) hx hb dX5_refusalAt_22 (by decide) ?_
  exact e_i S9 hr hlk (rfl) dX5_refusalAt_23
