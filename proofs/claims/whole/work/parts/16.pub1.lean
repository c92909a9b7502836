set_option maxHeartbeats 4000000 in
set_option maxRecDepth 100000 in
theorem c_kindOf (l : Launch) {G : Gt} {ws : va_W} (sz : Nat) {x sh li : Nat} {ad ar : Nat → Nat} {S : St} (hR : RpX G x sh li ad ar S ws) (hI : Inv S) (i : Int32) : Met l yX5_kindOf wsX5_kindOf ({ frames := 1, cells := 0, slots := 0, locals := 21 } : Room) (Pw G [.ref x, .int i] ws sz) (vp_Si (fun r : Int32 => r = sp_kindOf S i)) 0 0 (fun _ => False) := by
  refine Met_pw (cc := cX5_kindOf) (maxL := 3) (ret := (some .int)) (by decide) rfl (Nat.le_of_ble_eq_true rfl) ?_
  intro p e s m below meth c ls hsz S9 hr hlk hnm w hl
  subst hsz
  replace S9 : CallFix p m c cX5_kindOf 3 s _ wsX5_kindOf RX5 := S9
  have hx := S9.1
  have hb := S9.2.1
  have hown := S9.2.2.2.1
  have hts := S9.2.2.2.2
  replace hl : lv_has ls 3 [(0, .ref x), (1, .int i)] := hl
  refine lv_aload_n hx hb dX5_kindOf_0 rfl (lv_at hl 0 rfl) ?_
  refine lv_iload_n hx hb dX5_kindOf_1 rfl (lv_at hl 1 rfl) ?_
  refine kx_itemAt S9 w hR hI gX5_kindOf_X5_itemAt hl.1 (Nat.le_of_ble_eq_true rfl) dX5_kindOf_2 ⟨Nat.le_of_ble_eq_true rfl, Nat.le_of_ble_eq_true rfl⟩ ⟨Nat.le_of_ble_eq_true rfl, Nat.le_of_ble_eq_true rfl⟩ (fun i_2 => ?_) (fun h o i_2 ho => ?_)
  · refine lv_astore_nN (lv' := [(2, .null), (0, .ref x), (1, .int i)]) hx hb dX5_kindOf_5 rfl hl (by decide) rfl (fun ls hl => ?_)
    refine lv_aload_nN hx hb dX5_kindOf_6 rfl (lv_at hl 0 rfl) ?_
    refine lv_ifnonnullN hx hb dX5_kindOf_7 ?_
    refine lv_iconst (v := (-1)) hx hb dX5_kindOf_10 (by decide) ?_
    refine lv_goto (tgt := 18) hx hb dX5_kindOf_11 (by decide) ?_
    exact e_i S9 hr hlk (by simp [sp_kindOf, obj_none i_2]) dX5_kindOf_18
  · obtain ⟨dk, kd, q1, q2, q3, q4⟩ := hR.2.2.2.1 h o ho
    rcases (show o_k o ≤ 3 ∨ (4 ≤ o_k o ∧ o_k o ≤ 6) ∨ 7 ≤ o_k o by omega) with hk | ⟨hk, hm⟩ | hk
    · rw [o_num hk] at q1
      refine lv_astore_n (lv' := [(2, .ref (ad h)), (0, .ref x), (1, .int i)]) hx hb dX5_kindOf_5 rfl hl (by decide) rfl (fun ls hl => ?_)
      refine lv_aload_n hx hb dX5_kindOf_6 rfl (lv_at hl 0 rfl) ?_
      refine lv_ifnonnull (tgt := 14) hx hb dX5_kindOf_7 (by decide) ?_
      refine lv_aload_n hx hb dX5_kindOf_14 rfl (lv_at hl 0 rfl) ?_
      refine r_get (ref := "SpanMover$Item") S9 w q1 rfl (by decide +kernel) 1 (by decide) (by decide +kernel) (Or.inl rfl) rfl dX5_kindOf_15 ?_
      exact e_i S9 hr hlk (by simp [sp_kindOf, obj_some i_2 ho, show ¬ 7 ≤ o_k o by omega]) dX5_kindOf_18
    · rw [o_obj hk hm] at q1
      refine lv_astore_n (lv' := [(2, .ref (ad h)), (0, .ref x), (1, .int i)]) hx hb dX5_kindOf_5 rfl hl (by decide) rfl (fun ls hl => ?_)
      refine lv_aload_n hx hb dX5_kindOf_6 rfl (lv_at hl 0 rfl) ?_
      refine lv_ifnonnull (tgt := 14) hx hb dX5_kindOf_7 (by decide) ?_
      refine lv_aload_n hx hb dX5_kindOf_14 rfl (lv_at hl 0 rfl) ?_
      refine r_get (ref := "SpanMover$Item") S9 w q1 rfl (by decide +kernel) 1 (by decide) (by decide +kernel) (Or.inl rfl) rfl dX5_kindOf_15 ?_
      exact e_i S9 hr hlk (by simp [sp_kindOf, obj_some i_2 ho, show ¬ 7 ≤ o_k o by omega]) dX5_kindOf_18
    · rw [o_thg hk] at q1
      refine lv_astore_n (lv' := [(2, .ref (ad h)), (0, .ref x), (1, .int i)]) hx hb dX5_kindOf_5 rfl hl (by decide) rfl (fun ls hl => ?_)
      refine lv_aload_n hx hb dX5_kindOf_6 rfl (lv_at hl 0 rfl) ?_
      refine lv_ifnonnull (tgt := 14) hx hb dX5_kindOf_7 (by decide) ?_
      refine lv_aload_n hx hb dX5_kindOf_14 rfl (lv_at hl 0 rfl) ?_
      refine r_get (ref := "SpanMover$Item") S9 w q1 rfl (by decide +kernel) 0 (by decide) (by decide +kernel) (Or.inl rfl) rfl dX5_kindOf_15 ?_
      exact e_i S9 hr hlk (by simp [sp_kindOf, obj_some i_2 ho, hk]) dX5_kindOf_18

set_option maxHeartbeats 4000000 in
set_option maxRecDepth 100000 in
theorem c_length (l : Launch) {G : Gt} {ws : va_W} (sz : Nat) {x sh li : Nat} {ad ar : Nat → Nat} {S : St} (hR : RpX G x sh li ad ar S ws) (hI : Inv S) (i : Int32) : Met l yX5_length wsX5_length ({ frames := 1, cells := 0, slots := 0, locals := 21 } : Room) (Pw G [.ref x, .int i] ws sz) (vp_Si (fun r : Int32 => r = sp_length S i)) 0 0 (fun _ => False) := by
  refine Met_pw (cc := cX5_length) (maxL := 4) (ret := (some .int)) (by decide) rfl (Nat.le_of_ble_eq_true rfl) ?_
  intro p e s m below meth c ls hsz S9 hr hlk hnm w hl
  subst hsz
  replace S9 : CallFix p m c cX5_length 4 s _ wsX5_length RX5 := S9
  have hx := S9.1
  have hb := S9.2.1
  have hown := S9.2.2.2.1
  have hts := S9.2.2.2.2
  replace hl : lv_has ls 4 [(0, .ref x), (1, .int i)] := hl
  refine lv_aload_n hx hb dX5_length_0 rfl (lv_at hl 0 rfl) ?_
  refine lv_iload_n hx hb dX5_length_1 rfl (lv_at hl 1 rfl) ?_
  refine kx_itemAt S9 w hR hI gX5_length_X5_itemAt hl.1 (Nat.le_of_ble_eq_true rfl) dX5_length_2 ⟨Nat.le_of_ble_eq_true rfl, Nat.le_of_ble_eq_true rfl⟩ ⟨Nat.le_of_ble_eq_true rfl, Nat.le_of_ble_eq_true rfl⟩ (fun i_2 => ?_) (fun h o i_2 ho => ?_)
  · refine lv_astore_nN (lv' := [(2, .null), (0, .ref x), (1, .int i)]) hx hb dX5_length_5 rfl hl (by decide) rfl (fun ls hl => ?_)
    refine lv_aload_nN hx hb dX5_length_6 rfl (lv_at hl 0 rfl) ?_
    refine lv_ifnonnullN hx hb dX5_length_7 ?_
    refine lv_iconst (v := (-1)) hx hb dX5_length_10 (by decide) ?_
    exact e_i S9 hr hlk (by simp [sp_length, obj_none i_2]) dX5_length_11
  · obtain ⟨dk, kd, q1, q2, q3, q4⟩ := hR.2.2.2.1 h o ho
    rcases (show o_k o ≤ 3 ∨ (4 ≤ o_k o ∧ o_k o ≤ 6) ∨ 7 ≤ o_k o by omega) with hk | ⟨hk, hm⟩ | hk
    · rw [o_num hk] at q1
      refine lv_astore_n (lv' := [(2, .ref (ad h)), (0, .ref x), (1, .int i)]) hx hb dX5_length_5 rfl hl (by decide) rfl (fun ls hl => ?_)
      refine lv_aload_n hx hb dX5_length_6 rfl (lv_at hl 0 rfl) ?_
      refine lv_ifnonnull (tgt := 12) hx hb dX5_length_7 (by decide) ?_
      refine lv_aload_n hx hb dX5_length_12 rfl (lv_at hl 0 rfl) ?_
      refine r_inst S9 w q1 (by decide) 3 (by decide) (by decide +kernel) (v := 1) rfl dX5_length_13 ?_
      refine lv_if_eq (tgt := 31) hx hb dX5_length_16 (by decide) (fun c_16 => absurd c_16 (by decide)) (fun c_16 => ?_)
      refine lv_aload_n hx hb dX5_length_19 rfl (lv_at hl 0 rfl) ?_
      refine r_cast S9 w q1 (by decide) 3 (by decide) rfl (by decide +kernel) dX5_length_20 ?_
      refine lv_astore_n (lv' := [(3, .ref (ad h)), (2, .ref (ad h)), (0, .ref x), (1, .int i)]) hx hb dX5_length_23 rfl hl (by decide) rfl (fun ls hl => ?_)
      refine lv_aload_n hx hb dX5_length_24 rfl (lv_at hl 0 rfl) ?_
      refine r_get (ref := "SpanMover$Row") S9 w q1 rfl (by decide +kernel) 0 (by decide) (by decide +kernel) (Or.inl rfl) rfl dX5_length_25 ?_
      refine lv_goto (tgt := 33) hx hb dX5_length_28 (by decide) ?_
      exact e_i S9 hr hlk (by simp [sp_length, obj_some i_2 ho, show ¬ 7 ≤ o_k o by omega]) dX5_length_33
    · rw [o_obj hk hm] at q1
      refine lv_astore_n (lv' := [(2, .ref (ad h)), (0, .ref x), (1, .int i)]) hx hb dX5_length_5 rfl hl (by decide) rfl (fun ls hl => ?_)
      refine lv_aload_n hx hb dX5_length_6 rfl (lv_at hl 0 rfl) ?_
      refine lv_ifnonnull (tgt := 12) hx hb dX5_length_7 (by decide) ?_
      refine lv_aload_n hx hb dX5_length_12 rfl (lv_at hl 0 rfl) ?_
      refine r_inst S9 w q1 (by decide) 3 (by decide) (by decide +kernel) (v := 1) rfl dX5_length_13 ?_
      refine lv_if_eq (tgt := 31) hx hb dX5_length_16 (by decide) (fun c_16 => absurd c_16 (by decide)) (fun c_16 => ?_)
      refine lv_aload_n hx hb dX5_length_19 rfl (lv_at hl 0 rfl) ?_
      refine r_cast S9 w q1 (by decide) 3 (by decide) rfl (by decide +kernel) dX5_length_20 ?_
      refine lv_astore_n (lv' := [(3, .ref (ad h)), (2, .ref (ad h)), (0, .ref x), (1, .int i)]) hx hb dX5_length_23 rfl hl (by decide) rfl (fun ls hl => ?_)
      refine lv_aload_n hx hb dX5_length_24 rfl (lv_at hl 0 rfl) ?_
      refine r_get (ref := "SpanMover$Row") S9 w q1 rfl (by decide +kernel) 0 (by decide) (by decide +kernel) (Or.inl rfl) rfl dX5_length_25 ?_
      refine lv_goto (tgt := 33) hx hb dX5_length_28 (by decide) ?_
      exact e_i S9 hr hlk (by simp [sp_length, obj_some i_2 ho, show ¬ 7 ≤ o_k o by omega]) dX5_length_33
    · rw [o_thg hk] at q1
      refine lv_astore_n (lv' := [(2, .ref (ad h)), (0, .ref x), (1, .int i)]) hx hb dX5_length_5 rfl hl (by decide) rfl (fun ls hl => ?_)
      refine lv_aload_n hx hb dX5_length_6 rfl (lv_at hl 0 rfl) ?_
      refine lv_ifnonnull (tgt := 12) hx hb dX5_length_7 (by decide) ?_
      refine lv_aload_n hx hb dX5_length_12 rfl (lv_at hl 0 rfl) ?_
      refine r_inst S9 w q1 (by decide) 3 (by decide) (by decide +kernel) (v := 0) rfl dX5_length_13 ?_
      refine lv_if_eq (tgt := 31) hx hb dX5_length_16 (by decide) (fun c_16 => ?_) (fun c_16 => absurd c_16 (by decide))
      refine lv_bipush (v := (-2)) hx hb dX5_length_31 (by decide) ?_
      exact e_i S9 hr hlk (by simp [sp_length, obj_some i_2 ho, hk]) dX5_length_33

set_option maxHeartbeats 4000000 in
set_option maxRecDepth 100000 in
theorem c_same (l : Launch) {G : Gt} {ws : va_W} (sz : Nat) {x sh li : Nat} {ad ar : Nat → Nat} {S : St} (hR : RpX G x sh li ad ar S ws) (hI : Inv S) (i j : Int32) : Met l yX5_same wsX5_same ({ frames := 1, cells := 0, slots := 0, locals := 21 } : Room) (Pw G [.ref x, .int i, .int j] ws sz) (vp_Si (fun r : Int32 => r = sp_same S i j)) 0 0 (fun _ => False) := by
  refine Met_pw (cc := cX5_same) (maxL := 5) (ret := (some .int)) (by decide) rfl (Nat.le_of_ble_eq_true rfl) ?_
  intro p e s m below meth c ls hsz S9 hr hlk hnm w hl
  subst hsz
  replace S9 : CallFix p m c cX5_same 5 s _ wsX5_same RX5 := S9
  have hx := S9.1
  have hb := S9.2.1
  have hown := S9.2.2.2.1
  have hts := S9.2.2.2.2
  replace hl : lv_has ls 5 [(0, .ref x), (1, .int i), (2, .int j)] := hl
  refine lv_aload_n hx hb dX5_same_0 rfl (lv_at hl 0 rfl) ?_
  refine lv_iload_n hx hb dX5_same_1 rfl (lv_at hl 1 rfl) ?_
  refine kx_itemAt S9 w hR hI gX5_same_X5_itemAt hl.1 (Nat.le_of_ble_eq_true rfl) dX5_same_2 ⟨Nat.le_of_ble_eq_true rfl, Nat.le_of_ble_eq_true rfl⟩ ⟨Nat.le_of_ble_eq_true rfl, Nat.le_of_ble_eq_true rfl⟩ (fun i_2 => ?_) (fun h o i_2 ho => ?_)
  · refine lv_astore_nN (lv' := [(3, .null), (0, .ref x), (1, .int i), (2, .int j)]) hx hb dX5_same_5 rfl hl (by decide) rfl (fun ls hl => ?_)
    refine lv_aload_n hx hb dX5_same_6 rfl (lv_at hl 1 rfl) ?_
    refine lv_iload_n hx hb dX5_same_7 rfl (lv_at hl 3 rfl) ?_
    refine kx_itemAt S9 w hR hI gX5_same_X5_itemAt hl.1 (Nat.le_of_ble_eq_true rfl) dX5_same_8 ⟨Nat.le_of_ble_eq_true rfl, Nat.le_of_ble_eq_true rfl⟩ ⟨Nat.le_of_ble_eq_true rfl, Nat.le_of_ble_eq_true rfl⟩ (fun i_8 => ?_) (fun h9 o9 i_8 ho9 => ?_)
    · refine lv_astoreN (lv' := [(4, .null), (3, .null), (0, .ref x), (1, .int i), (2, .int j)]) hx hb dX5_same_11 hl (by decide) rfl (fun ls hl => ?_)
      refine lv_aload_nN hx hb dX5_same_13 rfl (lv_at hl 1 rfl) ?_
      refine lv_ifnullN (tgt := 22) hx hb dX5_same_14 (by decide) ?_
      refine lv_iconst (v := (-1)) hx hb dX5_same_22 (by decide) ?_
      exact e_i S9 hr hlk (by simp [sp_same, i_2]) dX5_same_23
    · refine lv_astore (lv' := [(4, .ref (ad h9)), (3, .null), (0, .ref x), (1, .int i), (2, .int j)]) hx hb dX5_same_11 hl (by decide) rfl (fun ls hl => ?_)
      refine lv_aload_nN hx hb dX5_same_13 rfl (lv_at hl 1 rfl) ?_
      refine lv_ifnullN (tgt := 22) hx hb dX5_same_14 (by decide) ?_
      refine lv_iconst (v := (-1)) hx hb dX5_same_22 (by decide) ?_
      exact e_i S9 hr hlk (by simp [sp_same, i_2]) dX5_same_23
  · refine lv_astore_n (lv' := [(3, .ref (ad h)), (0, .ref x), (1, .int i), (2, .int j)]) hx hb dX5_same_5 rfl hl (by decide) rfl (fun ls hl => ?_)
    refine lv_aload_n hx hb dX5_same_6 rfl (lv_at hl 1 rfl) ?_
    refine lv_iload_n hx hb dX5_same_7 rfl (lv_at hl 3 rfl) ?_
    refine kx_itemAt S9 w hR hI gX5_same_X5_itemAt hl.1 (Nat.le_of_ble_eq_true rfl) dX5_same_8 ⟨Nat.le_of_ble_eq_true rfl, Nat.le_of_ble_eq_true rfl⟩ ⟨Nat.le_of_ble_eq_true rfl, Nat.le_of_ble_eq_true rfl⟩ (fun i_8 => ?_) (fun h9 o9 i_8 ho9 => ?_)
    · refine lv_astoreN (lv' := [(4, .null), (3, .ref (ad h)), (0, .ref x), (1, .int i), (2, .int j)]) hx hb dX5_same_11 hl (by decide) rfl (fun ls hl => ?_)
      refine lv_aload_n hx hb dX5_same_13 rfl (lv_at hl 1 rfl) ?_
      refine lv_ifnull hx hb dX5_same_14 ?_
      refine lv_aloadN hx hb dX5_same_17 (lv_at hl 0 rfl) ?_
      refine lv_ifnonnullN hx hb dX5_same_19 ?_
      refine lv_iconst (v := (-1)) hx hb dX5_same_22 (by decide) ?_
      exact e_i S9 hr hlk (by simp [sp_same, i_2, i_8]) dX5_same_23
    · refine lv_astore (lv' := [(4, .ref (ad h9)), (3, .ref (ad h)), (0, .ref x), (1, .int i), (2, .int j)]) hx hb dX5_same_11 hl (by decide) rfl (fun ls hl => ?_)
      refine lv_aload_n hx hb dX5_same_13 rfl (lv_at hl 1 rfl) ?_
      refine lv_ifnull hx hb dX5_same_14 ?_
      refine lv_aload hx hb dX5_same_17 (lv_at hl 0 rfl) ?_
      refine lv_ifnonnull (tgt := 24) hx hb dX5_same_19 (by decide) ?_
      refine lv_aload_n hx hb dX5_same_24 rfl (lv_at hl 1 rfl) ?_
      refine lv_aload hx hb dX5_same_25 (lv_at hl 0 rfl) ?_
      refine lv_acmp_ne (tgt := 34) (rx := some (ad h)) (ry := some (ad h9)) hx hb dX5_same_27 (by decide) (fun c_27 => ?_) (fun c_27 => ?_)
      · refine lv_iconst (v := 0) hx hb dX5_same_34 (by decide) ?_
        exact e_i S9 hr hlk (by simp at c_27; simp [sp_same, i_2, i_8]; intro q; subst q; exact absurd rfl c_27) dX5_same_35
      · refine lv_iconst (v := 1) hx hb dX5_same_30 (by decide) ?_
        refine lv_goto (tgt := 35) hx hb dX5_same_31 (by decide) ?_
        exact e_i S9 hr hlk (by simp at c_27; simp [sp_same, i_2, i_8]; by_cases q : h = h9; exact q; exact absurd c_27 (hR.2.2.2.2.1 h h9 o o9 ho ho9 q).1) dX5_same_35

set_option maxHeartbeats 4000000 in
set_option maxRecDepth 100000 in
theorem c_count (l : Launch) {G : Gt} {ws : va_W} (sz : Nat) {x sh li : Nat} {ad ar : Nat → Nat} {S : St} (hR : RpX G x sh li ad ar S ws) (i : Int32) : Met l yX5_count wsX5_count ({ frames := 1, cells := 0, slots := 0, locals := 25 } : Room) (Pw G [.ref x, .int i] ws sz) (vp_Si (fun r : Int32 => r = sp_count S i)) 0 0 (fun _ => False) := by
  refine Met_pw (cc := cX5_count) (maxL := 2) (ret := (some .int)) (by decide) rfl (Nat.le_of_ble_eq_true rfl) ?_
  intro p e s m below meth c ls hsz S9 hr hlk hnm w hl
  subst hsz
  replace S9 : CallFix p m c cX5_count 2 s _ wsX5_count RX5 := S9
  have hx := S9.1
  have hb := S9.2.1
  have hown := S9.2.2.2.1
  have hts := S9.2.2.2.2
  replace hl : lv_has ls 2 [(0, .ref x), (1, .int i)] := hl
  refine lv_iload_n hx hb dX5_count_0 rfl (lv_at hl 1 rfl) ?_
  rcases sw5 i with rfl | rfl | rfl | rfl | rfl | hi
  · refine lv_tableIn (off := 35) (tgt := 36) hx hb dX5_count_1 (by decide) (by decide) (by decide) (by decide) ?_
    refine lv_aload_n hx hb dX5_count_36 rfl (lv_at hl 0 rfl) ?_
    refine k_vi S9 w (c_takenPlaces l _ hR) hR.1 rfl (cwV 0 hts gX5_count_X5_takenPlaces rfl rfl rfl (by decide +kernel) ⟨Nat.le_of_ble_eq_true rfl, Nat.le_of_ble_eq_true rfl⟩) rfl hl.1 rfl (Nat.le_of_ble_eq_true rfl) dX5_count_37 ⟨Nat.le_of_ble_eq_true rfl, Nat.le_of_ble_eq_true rfl⟩ (fun v7 e7 => ?_)
    exact e_i S9 hr hlk (by rw [e7]; rfl) dX5_count_40
  · refine lv_tableIn (off := 40) (tgt := 41) hx hb dX5_count_1 (by decide) (by decide) (by decide) (by decide) ?_
    refine lv_aload_n hx hb dX5_count_41 rfl (lv_at hl 0 rfl) ?_
    refine r_get (ref := "SpanMover") S9 w hR.1 rfl (by decide +kernel) 3 (by decide) (by decide +kernel) (Or.inl rfl) rfl dX5_count_42 ?_
    exact e_i S9 hr hlk (rfl) dX5_count_45
  · refine lv_tableIn (off := 45) (tgt := 46) hx hb dX5_count_1 (by decide) (by decide) (by decide) (by decide) ?_
    refine lv_aload_n hx hb dX5_count_46 rfl (lv_at hl 0 rfl) ?_
    refine r_get (ref := "SpanMover") S9 w hR.1 rfl (by decide +kernel) 2 (by decide) (by decide +kernel) (Or.inl rfl) rfl dX5_count_47 ?_
    exact e_i S9 hr hlk (rfl) dX5_count_50
  · refine lv_tableIn (off := 50) (tgt := 51) hx hb dX5_count_1 (by decide) (by decide) (by decide) (by decide) ?_
    refine lv_aload_n hx hb dX5_count_51 rfl (lv_at hl 0 rfl) ?_
    refine r_get (ref := "SpanMover") S9 w hR.1 rfl (by decide +kernel) 7 (by decide) (by decide +kernel) (Or.inl rfl) rfl dX5_count_52 ?_
    exact e_i S9 hr hlk (rfl) dX5_count_55
  · refine lv_tableIn (off := 55) (tgt := 56) hx hb dX5_count_1 (by decide) (by decide) (by decide) (by decide) ?_
    refine lv_aload_n hx hb dX5_count_56 rfl (lv_at hl 0 rfl) ?_
    refine r_get (ref := "SpanMover") S9 w hR.1 rfl (by decide +kernel) 8 (by decide) (by decide +kernel) (Or.inl rfl) rfl dX5_count_57 ?_
    exact e_i S9 hr hlk (rfl) dX5_count_60
  · refine lv_tableOut (tgt := 61) hx hb dX5_count_1 hi (by decide) ?_
    refine lv_iconst (v := (-1)) hx hb dX5_count_61 (by decide) ?_
    exact e_i S9 hr hlk (by have h0 : ¬ i = 0 := (fun q => by subst q; revert hi; decide); have h1 : ¬ i = 1 := (fun q => by subst q; revert hi; decide); have h2 : ¬ i = 2 := (fun q => by subst q; revert hi; decide); have h3 : ¬ i = 3 := (fun q => by subst q; revert hi; decide); have h4 : ¬ i = 4 := (fun q => by subst q; revert hi; decide); simp [sp_count, h0, h1, h2, h3, h4]) dX5_count_62
