/-- reasons 1 to 4 of a move between two rows or things -/
def bR (o o9 : Ob) (i j n : Int32) : Int32 := if ¬ ref3 (some o) (some o9) = 0 then ref3 (some o) (some o9) else if ¬ inS (o_n o) i n then 4 else if ¬ inS (o_n o9) j n then 4 else 0
set_option maxHeartbeats 4000000 in
set_option maxRecDepth 100000 in
theorem c_mbars_N (l : Launch) {G : Gt} {ws : va_W} (sz : Nat) {x : Nat} (i b j n : Int32) : Met l yX6_bars wsX6_bars ({ frames := 2, cells := 0, slots := 0, locals := 42 } : Room) (Pw G [.ref x, .int (-1), .int i, .int b, .int j, .int n] ws sz) (vp_Si (fun r : Int32 => r = 1)) 0 0 (fun _ => False) := by
  refine Met_pw (cc := cX6_bars) (maxL := 7) (ret := (some .int)) (by decide) rfl (Nat.le_of_ble_eq_true rfl) ?_
  intro p e s m below meth c ls hsz S9 hr hlk hnm w hl
  subst hsz
  replace S9 : CallFix p m c cX6_bars 7 s _ wsX6_bars RX6 := S9
  have hx := S9.1
  have hb := S9.2.1
  have hown := S9.2.2.2.1
  have hts := S9.2.2.2.2
  replace hl : lv_has ls 7 [(0, .ref x), (1, .int (-1)), (2, .int i), (3, .int b), (4, .int j), (5, .int n)] := hl
  refine lv_iload_n hx hb dX6_bars_0 rfl (lv_at hl 1 rfl) ?_
  refine lv_if_lt (tgt := 8) hx hb dX6_bars_1 (by decide) (fun c_1 => ?_) (fun c_1 => absurd c_1 (by decide))
  refine lv_iconst (v := 1) hx hb dX6_bars_8 (by decide) ?_
  exact e_i S9 hr hlk (rfl) dX6_bars_9

set_option maxHeartbeats 4000000 in
set_option maxRecDepth 100000 in
theorem c_mbars_M (l : Launch) {G : Gt} {ws : va_W} (sz : Nat) {x : Nat} (h : Nat) (hh : h < 60000) (i j n : Int32) : Met l yX6_bars wsX6_bars ({ frames := 2, cells := 0, slots := 0, locals := 42 } : Room) (Pw G [.ref x, .int (nI h), .int i, .int (-1), .int j, .int n] ws sz) (vp_Si (fun r : Int32 => r = 1)) 0 0 (fun _ => False) := by
  refine Met_pw (cc := cX6_bars) (maxL := 7) (ret := (some .int)) (by decide) rfl (Nat.le_of_ble_eq_true rfl) ?_
  intro p e s m below meth c ls hsz S9 hr hlk hnm w hl
  subst hsz
  replace S9 : CallFix p m c cX6_bars 7 s _ wsX6_bars RX6 := S9
  have hx := S9.1
  have hb := S9.2.1
  have hown := S9.2.2.2.1
  have hts := S9.2.2.2.2
  replace hl : lv_has ls 7 [(0, .ref x), (1, .int (nI h)), (2, .int i), (3, .int (-1)), (4, .int j), (5, .int n)] := hl
  refine lv_iload_n hx hb dX6_bars_0 rfl (lv_at hl 1 rfl) ?_
  refine lv_if_lt (tgt := 8) hx hb dX6_bars_1 (by decide) (fun c_1 => absurd c_1 (nI_pos (by omega))) (fun c_1 => ?_)
  refine lv_iload_n hx hb dX6_bars_4 rfl (lv_at hl 3 rfl) ?_
  refine lv_if_ge (tgt := 10) hx hb dX6_bars_5 (by decide) (fun c_5 => absurd c_5 (by decide)) (fun c_5 => ?_)
  refine lv_iconst (v := 1) hx hb dX6_bars_8 (by decide) ?_
  exact e_i S9 hr hlk (rfl) dX6_bars_9

set_option maxHeartbeats 4000000 in
set_option maxRecDepth 100000 in
theorem c_mbars_00 (l : Launch) {G : Gt} {ws : va_W} (sz : Nat) {x ha at_ li : Nat} {S : St} (hR : RpM G x ha at_ li S ws) (hI : Inv S) {h : Nat} {o : Ob} (ho : s_o S h = some o) {h9 : Nat} {o9 : Ob} (ho9 : s_o S h9 = some o9) (hk : o_k o ≤ 3) (hk9 : o_k o9 ≤ 3) (i j n : Int32) : Met l yX6_bars wsX6_bars ({ frames := 2, cells := 0, slots := 0, locals := 42 } : Room) (Pw G [.ref x, .int (nI h), .int i, .int (nI h9), .int j, .int n] ws sz) (vp_Si (fun r : Int32 => r = bR o o9 i j n)) 0 0 (fun _ => False) := by
  refine Met_pw (cc := cX6_bars) (maxL := 7) (ret := (some .int)) (by decide) rfl (Nat.le_of_ble_eq_true rfl) ?_
  intro p e s m below meth c ls hsz S9 hr hlk hnm w hl
  subst hsz
  replace S9 : CallFix p m c cX6_bars 7 s _ wsX6_bars RX6 := S9
  have hx := S9.1
  have hb := S9.2.1
  have hown := S9.2.2.2.1
  have hts := S9.2.2.2.2
  replace hl : lv_has ls 7 [(0, .ref x), (1, .int (nI h)), (2, .int i), (3, .int (nI h9)), (4, .int j), (5, .int n)] := hl
  obtain ⟨hf, af, hR1, -⟩ := id hR
  refine lv_iload_n hx hb dX6_bars_0 rfl (lv_at hl 1 rfl) ?_
  refine lv_if_lt (tgt := 8) hx hb dX6_bars_1 (by decide) (fun c_1 => absurd c_1 (nI_pos (by have := hI.hd ho; omega))) (fun c_1 => ?_)
  refine lv_iload_n hx hb dX6_bars_4 rfl (lv_at hl 3 rfl) ?_
  refine lv_if_ge (tgt := 10) hx hb dX6_bars_5 (by decide) (fun c_5 => ?_) (fun c_5 => absurd (nI_pos' (by have := hI.hd ho9; omega)) c_5)
  refine lv_aload_n hx hb dX6_bars_10 rfl (lv_at hl 0 rfl) ?_
  refine lv_iload_n hx hb dX6_bars_11 rfl (lv_at hl 1 rfl) ?_
  refine k_vi S9 w (c_misThing l _ hR hI ho) hR1 rfl (cwV 1 hts gX6_bars_X6_isThing rfl rfl rfl (by decide +kernel) ⟨Nat.le_of_ble_eq_true rfl, Nat.le_of_ble_eq_true rfl⟩) rfl hl.1 rfl (Nat.le_of_ble_eq_true rfl) dX6_bars_12 ⟨Nat.le_of_ble_eq_true rfl, Nat.le_of_ble_eq_true rfl⟩ (fun r1 er1 => ?_)
  rw [if_neg (by omega)] at er1
  subst er1
  refine lv_if_ne (tgt := 26) hx hb dX6_bars_15 (by decide) (fun c_15 => absurd c_15 (by decide)) (fun c_15 => ?_)
  refine lv_aload_n hx hb dX6_bars_18 rfl (lv_at hl 0 rfl) ?_
  refine lv_iload_n hx hb dX6_bars_19 rfl (lv_at hl 3 rfl) ?_
  refine k_vi S9 w (c_misThing l _ hR hI ho9) hR1 rfl (cwV 1 hts gX6_bars_X6_isThing rfl rfl rfl (by decide +kernel) ⟨Nat.le_of_ble_eq_true rfl, Nat.le_of_ble_eq_true rfl⟩) rfl hl.1 rfl (Nat.le_of_ble_eq_true rfl) dX6_bars_20 ⟨Nat.le_of_ble_eq_true rfl, Nat.le_of_ble_eq_true rfl⟩ (fun r2 er2 => ?_)
  rw [if_neg (by omega)] at er2
  subst er2
  refine lv_if_eq (tgt := 28) hx hb dX6_bars_23 (by decide) (fun c_23 => ?_) (fun c_23 => absurd c_23 (by decide))
  refine lv_aload_n hx hb dX6_bars_28 rfl (lv_at hl 0 rfl) ?_
  refine lv_iload_n hx hb dX6_bars_29 rfl (lv_at hl 1 rfl) ?_
  refine k_vi S9 w (c_misOfObjects l _ hR hI ho) hR1 rfl (cwV 1 hts gX6_bars_X6_isOfObjects rfl rfl rfl (by decide +kernel) ⟨Nat.le_of_ble_eq_true rfl, Nat.le_of_ble_eq_true rfl⟩) rfl hl.1 rfl (Nat.le_of_ble_eq_true rfl) dX6_bars_30 ⟨Nat.le_of_ble_eq_true rfl, Nat.le_of_ble_eq_true rfl⟩ (fun r3 er3 => ?_)
  rw [if_neg (by omega)] at er3
  subst er3
  refine lv_aload_n hx hb dX6_bars_33 rfl (lv_at hl 0 rfl) ?_
  refine lv_iload_n hx hb dX6_bars_34 rfl (lv_at hl 3 rfl) ?_
  refine k_vi S9 w (c_misOfObjects l _ hR hI ho9) hR1 rfl (cwV 1 hts gX6_bars_X6_isOfObjects rfl rfl rfl (by decide +kernel) ⟨Nat.le_of_ble_eq_true rfl, Nat.le_of_ble_eq_true rfl⟩) rfl hl.1 rfl (Nat.le_of_ble_eq_true rfl) dX6_bars_35 ⟨Nat.le_of_ble_eq_true rfl, Nat.le_of_ble_eq_true rfl⟩ (fun r4 er4 => ?_)
  rw [if_neg (by omega)] at er4
  subst er4
  refine lv_icmp_ne (tgt := 62) hx hb dX6_bars_38 (by decide) (fun c_38 => absurd c_38 (by decide)) (fun c_38 => ?_)
  refine lv_aload_n hx hb dX6_bars_41 rfl (lv_at hl 0 rfl) ?_
  refine lv_iload_n hx hb dX6_bars_42 rfl (lv_at hl 1 rfl) ?_
  refine k_vi S9 w (c_misOfObjects l _ hR hI ho) hR1 rfl (cwV 1 hts gX6_bars_X6_isOfObjects rfl rfl rfl (by decide +kernel) ⟨Nat.le_of_ble_eq_true rfl, Nat.le_of_ble_eq_true rfl⟩) rfl hl.1 rfl (Nat.le_of_ble_eq_true rfl) dX6_bars_43 ⟨Nat.le_of_ble_eq_true rfl, Nat.le_of_ble_eq_true rfl⟩ (fun r5 er5 => ?_)
  rw [if_neg (by omega)] at er5
  subst er5
  refine lv_if_ne (tgt := 64) hx hb dX6_bars_46 (by decide) (fun c_46 => absurd c_46 (by decide)) (fun c_46 => ?_)
  refine lv_aload_n hx hb dX6_bars_49 rfl (lv_at hl 0 rfl) ?_
  refine lv_iload_n hx hb dX6_bars_50 rfl (lv_at hl 1 rfl) ?_
  refine k_vi S9 w (c_mkind l _ hR hI ho) hR1 rfl (cwV 1 hts gX6_bars_X6_kind rfl rfl rfl (by decide +kernel) ⟨Nat.le_of_ble_eq_true rfl, Nat.le_of_ble_eq_true rfl⟩) rfl hl.1 rfl (Nat.le_of_ble_eq_true rfl) dX6_bars_51 ⟨Nat.le_of_ble_eq_true rfl, Nat.le_of_ble_eq_true rfl⟩ (fun r6 er6 => ?_)
  subst er6
  refine lv_aload_n hx hb dX6_bars_54 rfl (lv_at hl 0 rfl) ?_
  refine lv_iload_n hx hb dX6_bars_55 rfl (lv_at hl 3 rfl) ?_
  refine k_vi S9 w (c_mkind l _ hR hI ho9) hR1 rfl (cwV 1 hts gX6_bars_X6_kind rfl rfl rfl (by decide +kernel) ⟨Nat.le_of_ble_eq_true rfl, Nat.le_of_ble_eq_true rfl⟩) rfl hl.1 rfl (Nat.le_of_ble_eq_true rfl) dX6_bars_56 ⟨Nat.le_of_ble_eq_true rfl, Nat.le_of_ble_eq_true rfl⟩ (fun r7 er7 => ?_)
  subst er7
  refine lv_icmp_eq (tgt := 64) hx hb dX6_bars_59 (by decide) (fun c_59 => ?_) (fun c_59 => ?_)
  · refine lv_iload_n hx hb dX6_bars_64 rfl (lv_at hl 2 rfl) ?_
    refine lv_if_lt (tgt := 78) hx hb dX6_bars_65 (by decide) (fun c_65 => ?_) (fun c_65 => ?_)
    · refine lv_iconst (v := 1) hx hb dX6_bars_78 (by decide) ?_
      refine lv_goto (tgt := 83) hx hb dX6_bars_79 (by decide) ?_
      refine lv_istore (lv' := [(6, .int 1), (0, .ref x), (1, .int (nI h)), (2, .int i), (3, .int (nI h9)), (4, .int j), (5, .int n)]) hx hb dX6_bars_83 hl (by decide) rfl (fun ls hl => ?_)
      refine lv_iload hx hb dX6_bars_85 (lv_at hl 0 rfl) ?_
      refine lv_if_ne (tgt := 123) hx hb dX6_bars_87 (by decide) (fun c_87 => ?_) (fun c_87 => absurd c_87 (by decide))
      refine lv_iconst (v := 4) hx hb dX6_bars_123 (by decide) ?_
      refine lv_goto (tgt := 128) hx hb dX6_bars_124 (by decide) ?_
      exact e_i S9 hr hlk (by rw [nI_lit (by omega) (by omega)] at c_59; unfold bR; rw [show ref3 (some o) (some o9) = 0 from by simp only [ref3]; rw [if_neg (by omega), if_neg (by omega), if_pos (by omega)], if_neg (by decide)]; rw [if_pos (show ¬ inS (o_n o) i n from fun q => q.1 c_65)]) dX6_bars_128
    · refine lv_iload hx hb dX6_bars_68 (lv_at hl 4 rfl) ?_
      refine lv_if_lt (tgt := 78) hx hb dX6_bars_70 (by decide) (fun c_70 => ?_) (fun c_70 => ?_)
      · refine lv_iconst (v := 1) hx hb dX6_bars_78 (by decide) ?_
        refine lv_goto (tgt := 83) hx hb dX6_bars_79 (by decide) ?_
        refine lv_istore (lv' := [(6, .int 1), (0, .ref x), (1, .int (nI h)), (2, .int i), (3, .int (nI h9)), (4, .int j), (5, .int n)]) hx hb dX6_bars_83 hl (by decide) rfl (fun ls hl => ?_)
        refine lv_iload hx hb dX6_bars_85 (lv_at hl 0 rfl) ?_
        refine lv_if_ne (tgt := 123) hx hb dX6_bars_87 (by decide) (fun c_87 => ?_) (fun c_87 => absurd c_87 (by decide))
        refine lv_iconst (v := 4) hx hb dX6_bars_123 (by decide) ?_
        refine lv_goto (tgt := 128) hx hb dX6_bars_124 (by decide) ?_
        exact e_i S9 hr hlk (by rw [nI_lit (by omega) (by omega)] at c_59; unfold bR; rw [show ref3 (some o) (some o9) = 0 from by simp only [ref3]; rw [if_neg (by omega), if_neg (by omega), if_pos (by omega)], if_neg (by decide)]; by_cases s1 : inS (o_n o) i n; (rw [if_neg (fun q => q s1), if_pos (show ¬ inS (o_n o9) j n from fun q => q.1 c_70)]); (rw [if_pos s1])) dX6_bars_128
      · refine lv_iload hx hb dX6_bars_73 (lv_at hl 5 rfl) ?_
        refine lv_if_ge (tgt := 82) hx hb dX6_bars_75 (by decide) (fun c_75 => ?_) (fun c_75 => ?_)
        · refine lv_iconst (v := 0) hx hb dX6_bars_82 (by decide) ?_
          refine lv_istore (lv' := [(6, .int 0), (0, .ref x), (1, .int (nI h)), (2, .int i), (3, .int (nI h9)), (4, .int j), (5, .int n)]) hx hb dX6_bars_83 hl (by decide) rfl (fun ls hl => ?_)
          refine lv_iload hx hb dX6_bars_85 (lv_at hl 0 rfl) ?_
          refine lv_if_ne (tgt := 123) hx hb dX6_bars_87 (by decide) (fun c_87 => absurd c_87 (by decide)) (fun c_87 => ?_)
          refine lv_iload_n hx hb dX6_bars_90 rfl (lv_at hl 3 rfl) ?_
          obtain ⟨v8, ev8⟩ : ∃ z : Int64, Int32.toInt64 i = z := ⟨_, rfl⟩
          refine lv_i2l (v := v8) hx hb dX6_bars_91 ev8 ?_
          refine lv_iload hx hb dX6_bars_92 (lv_at hl 6 rfl) ?_
          obtain ⟨v9, ev9⟩ : ∃ z : Int64, Int32.toInt64 n = z := ⟨_, rfl⟩
          refine lv_i2l (v := v9) hx hb dX6_bars_94 ev9 ?_
          refine lv_ladd hx hb dX6_bars_95 ?_
          refine lv_topl (fun v10 ev10 => ?_)
          refine lv_aload_n hx hb dX6_bars_96 rfl (lv_at hl 1 rfl) ?_
          refine lv_iload_n hx hb dX6_bars_97 rfl (lv_at hl 2 rfl) ?_
          refine k_vi S9 w (c_mlow l _ hR hI ho) hR1 rfl (cwV 1 hts gX6_bars_X6_low rfl rfl rfl (by decide +kernel) ⟨Nat.le_of_ble_eq_true rfl, Nat.le_of_ble_eq_true rfl⟩) rfl hl.1 rfl (Nat.le_of_ble_eq_true rfl) dX6_bars_98 ⟨Nat.le_of_ble_eq_true rfl, Nat.le_of_ble_eq_true rfl⟩ (fun r11 er11 => ?_)
          rw [loV_row (by omega)] at er11
          subst er11
          obtain ⟨v12, ev12⟩ : ∃ z : Int64, Int32.toInt64 (nI (o_n o)) = z := ⟨_, rfl⟩
          refine lv_i2l (v := v12) hx hb dX6_bars_101 ev12 ?_
          refine W.lcmp hx hb dX6_bars_102 ?_
          refine lv_topi (fun v13 ev13 => ?_)
          refine lv_if_gt (tgt := 123) hx hb dX6_bars_103 (by decide) (fun c_103 => ?_) (fun c_103 => ?_)
          · refine lv_iconst (v := 4) hx hb dX6_bars_123 (by decide) ?_
            refine lv_goto (tgt := 128) hx hb dX6_bars_124 (by decide) ?_
            exact e_i S9 hr hlk (by have n0 := (hI.ob ho).2; have n9 := (hI.ob ho9).2; have nn0 : ¬ n < 0 := (by rw [ii_lt]; rw [ii_le] at c_75; omega); rw [span_cmp (show o_n o < 2 ^ 31 by omega) ev8 ev9 ev10 ev12 ev13] at c_103; rw [nI_lit (by omega) (by omega)] at c_59; unfold bR; rw [show ref3 (some o) (some o9) = 0 from by simp only [ref3]; rw [if_neg (by omega), if_neg (by omega), if_pos (by omega)], if_neg (by decide)]; rw [if_pos (show ¬ inS (o_n o) i n from fun q => c_103 q.2.2)]) dX6_bars_128
          · refine lv_iload hx hb dX6_bars_106 (lv_at hl 5 rfl) ?_
            obtain ⟨v14, ev14⟩ : ∃ z : Int64, Int32.toInt64 j = z := ⟨_, rfl⟩
            refine lv_i2l (v := v14) hx hb dX6_bars_108 ev14 ?_
            refine lv_iload hx hb dX6_bars_109 (lv_at hl 6 rfl) ?_
            obtain ⟨v15, ev15⟩ : ∃ z : Int64, Int32.toInt64 n = z := ⟨_, rfl⟩
            refine lv_i2l (v := v15) hx hb dX6_bars_111 ev15 ?_
            refine lv_ladd hx hb dX6_bars_112 ?_
            refine lv_topl (fun v16 ev16 => ?_)
            refine lv_aload_n hx hb dX6_bars_113 rfl (lv_at hl 1 rfl) ?_
            refine lv_iload_n hx hb dX6_bars_114 rfl (lv_at hl 4 rfl) ?_
            refine k_vi S9 w (c_mlow l _ hR hI ho9) hR1 rfl (cwV 1 hts gX6_bars_X6_low rfl rfl rfl (by decide +kernel) ⟨Nat.le_of_ble_eq_true rfl, Nat.le_of_ble_eq_true rfl⟩) rfl hl.1 rfl (Nat.le_of_ble_eq_true rfl) dX6_bars_115 ⟨Nat.le_of_ble_eq_true rfl, Nat.le_of_ble_eq_true rfl⟩ (fun r17 er17 => ?_)
            rw [loV_row (by omega)] at er17
            subst er17
            obtain ⟨v18, ev18⟩ : ∃ z : Int64, Int32.toInt64 (nI (o_n o9)) = z := ⟨_, rfl⟩
            refine lv_i2l (v := v18) hx hb dX6_bars_118 ev18 ?_
            refine W.lcmp hx hb dX6_bars_119 ?_
            refine lv_topi (fun v19 ev19 => ?_)
            refine lv_if_le (tgt := 127) hx hb dX6_bars_120 (by decide) (fun c_120 => ?_) (fun c_120 => ?_)
            · refine lv_iconst (v := 0) hx hb dX6_bars_127 (by decide) ?_
              exact e_i S9 hr hlk (by have n0 := (hI.ob ho).2; have n9 := (hI.ob ho9).2; have nn0 : ¬ n < 0 := (by rw [ii_lt]; rw [ii_le] at c_75; omega); rw [span_cmp (show o_n o < 2 ^ 31 by omega) ev8 ev9 ev10 ev12 ev13] at c_103; have s1 : inS (o_n o) i n := ⟨c_65, nn0, Decidable.not_not.mp c_103⟩; have c2 := span_cmp (show o_n o9 < 2 ^ 31 by omega) ev14 ev15 ev16 ev18 ev19; have s2 : inS (o_n o9) j n := ⟨c_70, nn0, Decidable.not_not.mp (fun q => absurd (c2.mpr q) (by rw [ii_lt]; rw [ii_le] at c_120; omega))⟩; rw [nI_lit (by omega) (by omega)] at c_59; unfold bR; rw [show ref3 (some o) (some o9) = 0 from by simp only [ref3]; rw [if_neg (by omega), if_neg (by omega), if_pos (by omega)], if_neg (by decide)]; rw [if_neg (fun q => q s1), if_neg (fun q => q s2)]) dX6_bars_128
            · refine lv_iconst (v := 4) hx hb dX6_bars_123 (by decide) ?_
              refine lv_goto (tgt := 128) hx hb dX6_bars_124 (by decide) ?_
              exact e_i S9 hr hlk (by have n0 := (hI.ob ho).2; have n9 := (hI.ob ho9).2; have nn0 : ¬ n < 0 := (by rw [ii_lt]; rw [ii_le] at c_75; omega); rw [span_cmp (show o_n o < 2 ^ 31 by omega) ev8 ev9 ev10 ev12 ev13] at c_103; have s1 : inS (o_n o) i n := ⟨c_65, nn0, Decidable.not_not.mp c_103⟩; have c2 := span_cmp (show o_n o9 < 2 ^ 31 by omega) ev14 ev15 ev16 ev18 ev19; have s2 : ¬ inS (o_n o9) j n := (fun q => c2.mp (by rw [ii_lt]; rw [ii_le] at c_120; omega) q.2.2); rw [nI_lit (by omega) (by omega)] at c_59; unfold bR; rw [show ref3 (some o) (some o9) = 0 from by simp only [ref3]; rw [if_neg (by omega), if_neg (by omega), if_pos (by omega)], if_neg (by decide)]; rw [if_neg (fun q => q s1), if_pos s2]) dX6_bars_128
        · refine lv_iconst (v := 1) hx hb dX6_bars_78 (by decide) ?_
          refine lv_goto (tgt := 83) hx hb dX6_bars_79 (by decide) ?_
          refine lv_istore (lv' := [(6, .int 1), (0, .ref x), (1, .int (nI h)), (2, .int i), (3, .int (nI h9)), (4, .int j), (5, .int n)]) hx hb dX6_bars_83 hl (by decide) rfl (fun ls hl => ?_)
          refine lv_iload hx hb dX6_bars_85 (lv_at hl 0 rfl) ?_
          refine lv_if_ne (tgt := 123) hx hb dX6_bars_87 (by decide) (fun c_87 => ?_) (fun c_87 => absurd c_87 (by decide))
          refine lv_iconst (v := 4) hx hb dX6_bars_123 (by decide) ?_
          refine lv_goto (tgt := 128) hx hb dX6_bars_124 (by decide) ?_
          exact e_i S9 hr hlk (by rw [nI_lit (by omega) (by omega)] at c_59; unfold bR; rw [show ref3 (some o) (some o9) = 0 from by simp only [ref3]; rw [if_neg (by omega), if_neg (by omega), if_pos (by omega)], if_neg (by decide)]; rw [if_pos (show ¬ inS (o_n o) i n from (fun q => c_75 (by have := q.2.1; rw [ii_lt] at this; rw [ii_le]; omega)))]) dX6_bars_128
  · refine lv_iconst (v := 3) hx hb dX6_bars_62 (by decide) ?_
    exact e_i S9 hr hlk (by rw [nI_lit (by omega) (by omega)] at c_59; unfold bR; rw [show ref3 (some o) (some o9) = 3 from by simp only [ref3]; rw [if_neg (by omega), if_neg (by omega), if_neg (by omega)], if_pos (by decide)]) dX6_bars_63

set_option maxHeartbeats 4000000 in
set_option maxRecDepth 100000 in
theorem c_mbars_01 (l : Launch) {G : Gt} {ws : va_W} (sz : Nat) {x ha at_ li : Nat} {S : St} (hR : RpM G x ha at_ li S ws) (hI : Inv S) {h : Nat} {o : Ob} (ho : s_o S h = some o) {h9 : Nat} {o9 : Ob} (ho9 : s_o S h9 = some o9) (hk : o_k o ≤ 3) (hk9 : 4 ≤ o_k o9) (hm9 : o_k o9 ≤ 6) (i j n : Int32) : Met l yX6_bars wsX6_bars ({ frames := 2, cells := 0, slots := 0, locals := 42 } : Room) (Pw G [.ref x, .int (nI h), .int i, .int (nI h9), .int j, .int n] ws sz) (vp_Si (fun r : Int32 => r = bR o o9 i j n)) 0 0 (fun _ => False) := by
  refine Met_pw (cc := cX6_bars) (maxL := 7) (ret := (some .int)) (by decide) rfl (Nat.le_of_ble_eq_true rfl) ?_
  intro p e s m below meth c ls hsz S9 hr hlk hnm w hl
  subst hsz
  replace S9 : CallFix p m c cX6_bars 7 s _ wsX6_bars RX6 := S9
  have hx := S9.1
  have hb := S9.2.1
  have hown := S9.2.2.2.1
  have hts := S9.2.2.2.2
  replace hl : lv_has ls 7 [(0, .ref x), (1, .int (nI h)), (2, .int i), (3, .int (nI h9)), (4, .int j), (5, .int n)] := hl
  obtain ⟨hf, af, hR1, -⟩ := id hR
  refine lv_iload_n hx hb dX6_bars_0 rfl (lv_at hl 1 rfl) ?_
  refine lv_if_lt (tgt := 8) hx hb dX6_bars_1 (by decide) (fun c_1 => absurd c_1 (nI_pos (by have := hI.hd ho; omega))) (fun c_1 => ?_)
  refine lv_iload_n hx hb dX6_bars_4 rfl (lv_at hl 3 rfl) ?_
  refine lv_if_ge (tgt := 10) hx hb dX6_bars_5 (by decide) (fun c_5 => ?_) (fun c_5 => absurd (nI_pos' (by have := hI.hd ho9; omega)) c_5)
  refine lv_aload_n hx hb dX6_bars_10 rfl (lv_at hl 0 rfl) ?_
  refine lv_iload_n hx hb dX6_bars_11 rfl (lv_at hl 1 rfl) ?_
  refine k_vi S9 w (c_misThing l _ hR hI ho) hR1 rfl (cwV 1 hts gX6_bars_X6_isThing rfl rfl rfl (by decide +kernel) ⟨Nat.le_of_ble_eq_true rfl, Nat.le_of_ble_eq_true rfl⟩) rfl hl.1 rfl (Nat.le_of_ble_eq_true rfl) dX6_bars_12 ⟨Nat.le_of_ble_eq_true rfl, Nat.le_of_ble_eq_true rfl⟩ (fun r1 er1 => ?_)
  rw [if_neg (by omega)] at er1
  subst er1
  refine lv_if_ne (tgt := 26) hx hb dX6_bars_15 (by decide) (fun c_15 => absurd c_15 (by decide)) (fun c_15 => ?_)
  refine lv_aload_n hx hb dX6_bars_18 rfl (lv_at hl 0 rfl) ?_
  refine lv_iload_n hx hb dX6_bars_19 rfl (lv_at hl 3 rfl) ?_
  refine k_vi S9 w (c_misThing l _ hR hI ho9) hR1 rfl (cwV 1 hts gX6_bars_X6_isThing rfl rfl rfl (by decide +kernel) ⟨Nat.le_of_ble_eq_true rfl, Nat.le_of_ble_eq_true rfl⟩) rfl hl.1 rfl (Nat.le_of_ble_eq_true rfl) dX6_bars_20 ⟨Nat.le_of_ble_eq_true rfl, Nat.le_of_ble_eq_true rfl⟩ (fun r2 er2 => ?_)
  rw [if_neg (by omega)] at er2
  subst er2
  refine lv_if_eq (tgt := 28) hx hb dX6_bars_23 (by decide) (fun c_23 => ?_) (fun c_23 => absurd c_23 (by decide))
  refine lv_aload_n hx hb dX6_bars_28 rfl (lv_at hl 0 rfl) ?_
  refine lv_iload_n hx hb dX6_bars_29 rfl (lv_at hl 1 rfl) ?_
  refine k_vi S9 w (c_misOfObjects l _ hR hI ho) hR1 rfl (cwV 1 hts gX6_bars_X6_isOfObjects rfl rfl rfl (by decide +kernel) ⟨Nat.le_of_ble_eq_true rfl, Nat.le_of_ble_eq_true rfl⟩) rfl hl.1 rfl (Nat.le_of_ble_eq_true rfl) dX6_bars_30 ⟨Nat.le_of_ble_eq_true rfl, Nat.le_of_ble_eq_true rfl⟩ (fun r3 er3 => ?_)
  rw [if_neg (by omega)] at er3
  subst er3
  refine lv_aload_n hx hb dX6_bars_33 rfl (lv_at hl 0 rfl) ?_
  refine lv_iload_n hx hb dX6_bars_34 rfl (lv_at hl 3 rfl) ?_
  refine k_vi S9 w (c_misOfObjects l _ hR hI ho9) hR1 rfl (cwV 1 hts gX6_bars_X6_isOfObjects rfl rfl rfl (by decide +kernel) ⟨Nat.le_of_ble_eq_true rfl, Nat.le_of_ble_eq_true rfl⟩) rfl hl.1 rfl (Nat.le_of_ble_eq_true rfl) dX6_bars_35 ⟨Nat.le_of_ble_eq_true rfl, Nat.le_of_ble_eq_true rfl⟩ (fun r4 er4 => ?_)
  rw [if_pos (by omega)] at er4
  subst er4
  refine lv_icmp_ne (tgt := 62) hx hb dX6_bars_38 (by decide) (fun c_38 => ?_) (fun c_38 => absurd c_38 (by decide))
  refine lv_iconst (v := 3) hx hb dX6_bars_62 (by decide) ?_
  exact e_i S9 hr hlk (by unfold bR; rw [show ref3 (some o) (some o9) = 3 from by simp only [ref3]; rw [if_neg (by omega), if_neg (by omega), if_neg (by omega)], if_pos (by decide)]) dX6_bars_63

set_option maxHeartbeats 4000000 in
set_option maxRecDepth 100000 in
theorem c_mbars_02 (l : Launch) {G : Gt} {ws : va_W} (sz : Nat) {x ha at_ li : Nat} {S : St} (hR : RpM G x ha at_ li S ws) (hI : Inv S) {h : Nat} {o : Ob} (ho : s_o S h = some o) {h9 : Nat} {o9 : Ob} (ho9 : s_o S h9 = some o9) (hk : o_k o ≤ 3) (hk9 : 7 ≤ o_k o9) (i j n : Int32) : Met l yX6_bars wsX6_bars ({ frames := 2, cells := 0, slots := 0, locals := 42 } : Room) (Pw G [.ref x, .int (nI h), .int i, .int (nI h9), .int j, .int n] ws sz) (vp_Si (fun r : Int32 => r = bR o o9 i j n)) 0 0 (fun _ => False) := by
  refine Met_pw (cc := cX6_bars) (maxL := 7) (ret := (some .int)) (by decide) rfl (Nat.le_of_ble_eq_true rfl) ?_
  intro p e s m below meth c ls hsz S9 hr hlk hnm w hl
  subst hsz
  replace S9 : CallFix p m c cX6_bars 7 s _ wsX6_bars RX6 := S9
  have hx := S9.1
  have hb := S9.2.1
  have hown := S9.2.2.2.1
  have hts := S9.2.2.2.2
  replace hl : lv_has ls 7 [(0, .ref x), (1, .int (nI h)), (2, .int i), (3, .int (nI h9)), (4, .int j), (5, .int n)] := hl
  obtain ⟨hf, af, hR1, -⟩ := id hR
  refine lv_iload_n hx hb dX6_bars_0 rfl (lv_at hl 1 rfl) ?_
  refine lv_if_lt (tgt := 8) hx hb dX6_bars_1 (by decide) (fun c_1 => absurd c_1 (nI_pos (by have := hI.hd ho; omega))) (fun c_1 => ?_)
  refine lv_iload_n hx hb dX6_bars_4 rfl (lv_at hl 3 rfl) ?_
  refine lv_if_ge (tgt := 10) hx hb dX6_bars_5 (by decide) (fun c_5 => ?_) (fun c_5 => absurd (nI_pos' (by have := hI.hd ho9; omega)) c_5)
  refine lv_aload_n hx hb dX6_bars_10 rfl (lv_at hl 0 rfl) ?_
  refine lv_iload_n hx hb dX6_bars_11 rfl (lv_at hl 1 rfl) ?_
  refine k_vi S9 w (c_misThing l _ hR hI ho) hR1 rfl (cwV 1 hts gX6_bars_X6_isThing rfl rfl rfl (by decide +kernel) ⟨Nat.le_of_ble_eq_true rfl, Nat.le_of_ble_eq_true rfl⟩) rfl hl.1 rfl (Nat.le_of_ble_eq_true rfl) dX6_bars_12 ⟨Nat.le_of_ble_eq_true rfl, Nat.le_of_ble_eq_true rfl⟩ (fun r1 er1 => ?_)
  rw [if_neg (by omega)] at er1
  subst er1
  refine lv_if_ne (tgt := 26) hx hb dX6_bars_15 (by decide) (fun c_15 => absurd c_15 (by decide)) (fun c_15 => ?_)
  refine lv_aload_n hx hb dX6_bars_18 rfl (lv_at hl 0 rfl) ?_
  refine lv_iload_n hx hb dX6_bars_19 rfl (lv_at hl 3 rfl) ?_
  refine k_vi S9 w (c_misThing l _ hR hI ho9) hR1 rfl (cwV 1 hts gX6_bars_X6_isThing rfl rfl rfl (by decide +kernel) ⟨Nat.le_of_ble_eq_true rfl, Nat.le_of_ble_eq_true rfl⟩) rfl hl.1 rfl (Nat.le_of_ble_eq_true rfl) dX6_bars_20 ⟨Nat.le_of_ble_eq_true rfl, Nat.le_of_ble_eq_true rfl⟩ (fun r2 er2 => ?_)
  rw [if_pos (by omega)] at er2
  subst er2
  refine lv_if_eq (tgt := 28) hx hb dX6_bars_23 (by decide) (fun c_23 => absurd c_23 (by decide)) (fun c_23 => ?_)
  refine lv_iconst (v := 2) hx hb dX6_bars_26 (by decide) ?_
  exact e_i S9 hr hlk (by unfold bR; rw [show ref3 (some o) (some o9) = 2 from by simp only [ref3]; rw [if_neg (by omega), if_pos hk9], if_pos (by decide)]) dX6_bars_27

set_option maxHeartbeats 4000000 in
set_option maxRecDepth 100000 in
theorem c_mbars_10 (l : Launch) {G : Gt} {ws : va_W} (sz : Nat) {x ha at_ li : Nat} {S : St} (hR : RpM G x ha at_ li S ws) (hI : Inv S) {h : Nat} {o : Ob} (ho : s_o S h = some o) {h9 : Nat} {o9 : Ob} (ho9 : s_o S h9 = some o9) (hk : 4 ≤ o_k o) (hm : o_k o ≤ 6) (hk9 : o_k o9 ≤ 3) (i j n : Int32) : Met l yX6_bars wsX6_bars ({ frames := 2, cells := 0, slots := 0, locals := 42 } : Room) (Pw G [.ref x, .int (nI h), .int i, .int (nI h9), .int j, .int n] ws sz) (vp_Si (fun r : Int32 => r = bR o o9 i j n)) 0 0 (fun _ => False) := by
  refine Met_pw (cc := cX6_bars) (maxL := 7) (ret := (some .int)) (by decide) rfl (Nat.le_of_ble_eq_true rfl) ?_
  intro p e s m below meth c ls hsz S9 hr hlk hnm w hl
  subst hsz
  replace S9 : CallFix p m c cX6_bars 7 s _ wsX6_bars RX6 := S9
  have hx := S9.1
  have hb := S9.2.1
  have hown := S9.2.2.2.1
  have hts := S9.2.2.2.2
  replace hl : lv_has ls 7 [(0, .ref x), (1, .int (nI h)), (2, .int i), (3, .int (nI h9)), (4, .int j), (5, .int n)] := hl
  obtain ⟨hf, af, hR1, -⟩ := id hR
  refine lv_iload_n hx hb dX6_bars_0 rfl (lv_at hl 1 rfl) ?_
  refine lv_if_lt (tgt := 8) hx hb dX6_bars_1 (by decide) (fun c_1 => absurd c_1 (nI_pos (by have := hI.hd ho; omega))) (fun c_1 => ?_)
  refine lv_iload_n hx hb dX6_bars_4 rfl (lv_at hl 3 rfl) ?_
  refine lv_if_ge (tgt := 10) hx hb dX6_bars_5 (by decide) (fun c_5 => ?_) (fun c_5 => absurd (nI_pos' (by have := hI.hd ho9; omega)) c_5)
  refine lv_aload_n hx hb dX6_bars_10 rfl (lv_at hl 0 rfl) ?_
  refine lv_iload_n hx hb dX6_bars_11 rfl (lv_at hl 1 rfl) ?_
  refine k_vi S9 w (c_misThing l _ hR hI ho) hR1 rfl (cwV 1 hts gX6_bars_X6_isThing rfl rfl rfl (by decide +kernel) ⟨Nat.le_of_ble_eq_true rfl, Nat.le_of_ble_eq_true rfl⟩) rfl hl.1 rfl (Nat.le_of_ble_eq_true rfl) dX6_bars_12 ⟨Nat.le_of_ble_eq_true rfl, Nat.le_of_ble_eq_true rfl⟩ (fun r1 er1 => ?_)
  rw [if_neg (by omega)] at er1
  subst er1
  refine lv_if_ne (tgt := 26) hx hb dX6_bars_15 (by decide) (fun c_15 => absurd c_15 (by decide)) (fun c_15 => ?_)
  refine lv_aload_n hx hb dX6_bars_18 rfl (lv_at hl 0 rfl) ?_
  refine lv_iload_n hx hb dX6_bars_19 rfl (lv_at hl 3 rfl) ?_
  refine k_vi S9 w (c_misThing l _ hR hI ho9) hR1 rfl (cwV 1 hts gX6_bars_X6_isThing rfl rfl rfl (by decide +kernel) ⟨Nat.le_of_ble_eq_true rfl, Nat.le_of_ble_eq_true rfl⟩) rfl hl.1 rfl (Nat.le_of_ble_eq_true rfl) dX6_bars_20 ⟨Nat.le_of_ble_eq_true rfl, Nat.le_of_ble_eq_true rfl⟩ (fun r2 er2 => ?_)
  rw [if_neg (by omega)] at er2
  subst er2
  refine lv_if_eq (tgt := 28) hx hb dX6_bars_23 (by decide) (fun c_23 => ?_) (fun c_23 => absurd c_23 (by decide))
  refine lv_aload_n hx hb dX6_bars_28 rfl (lv_at hl 0 rfl) ?_
  refine lv_iload_n hx hb dX6_bars_29 rfl (lv_at hl 1 rfl) ?_
  refine k_vi S9 w (c_misOfObjects l _ hR hI ho) hR1 rfl (cwV 1 hts gX6_bars_X6_isOfObjects rfl rfl rfl (by decide +kernel) ⟨Nat.le_of_ble_eq_true rfl, Nat.le_of_ble_eq_true rfl⟩) rfl hl.1 rfl (Nat.le_of_ble_eq_true rfl) dX6_bars_30 ⟨Nat.le_of_ble_eq_true rfl, Nat.le_of_ble_eq_true rfl⟩ (fun r3 er3 => ?_)
  rw [if_pos (by omega)] at er3
  subst er3
  refine lv_aload_n hx hb dX6_bars_33 rfl (lv_at hl 0 rfl) ?_
  refine lv_iload_n hx hb dX6_bars_34 rfl (lv_at hl 3 rfl) ?_
  refine k_vi S9 w (c_misOfObjects l _ hR hI ho9) hR1 rfl (cwV 1 hts gX6_bars_X6_isOfObjects rfl rfl rfl (by decide +kernel) ⟨Nat.le_of_ble_eq_true rfl, Nat.le_of_ble_eq_true rfl⟩) rfl hl.1 rfl (Nat.le_of_ble_eq_true rfl) dX6_bars_35 ⟨Nat.le_of_ble_eq_true rfl, Nat.le_of_ble_eq_true rfl⟩ (fun r4 er4 => ?_)
  rw [if_neg (by omega)] at er4
  subst er4
  refine lv_icmp_ne (tgt := 62) hx hb dX6_bars_38 (by decide) (fun c_38 => ?_) (fun c_38 => absurd c_38 (by decide))
  refine lv_iconst (v := 3) hx hb dX6_bars_62 (by decide) ?_
  exact e_i S9 hr hlk (by unfold bR; rw [show ref3 (some o) (some o9) = 3 from by simp only [ref3]; rw [if_neg (by omega), if_neg (by omega), if_neg (by omega)], if_pos (by decide)]) dX6_bars_63

set_option maxHeartbeats 4000000 in
set_option maxRecDepth 100000 in
theorem c_mbars_11 (l : Launch) {G : Gt} {ws : va_W} (sz : Nat) {x ha at_ li : Nat} {S : St} (hR : RpM G x ha at_ li S ws) (hI : Inv S) {h : Nat} {o : Ob} (ho : s_o S h = some o) {h9 : Nat} {o9 : Ob} (ho9 : s_o S h9 = some o9) (hk : 4 ≤ o_k o) (hm : o_k o ≤ 6) (hk9 : 4 ≤ o_k o9) (hm9 : o_k o9 ≤ 6) (i j n : Int32) : Met l yX6_bars wsX6_bars ({ frames := 2, cells := 0, slots := 0, locals := 42 } : Room) (Pw G [.ref x, .int (nI h), .int i, .int (nI h9), .int j, .int n] ws sz) (vp_Si (fun r : Int32 => r = bR o o9 i j n)) 0 0 (fun _ => False) := by
  refine Met_pw (cc := cX6_bars) (maxL := 7) (ret := (some .int)) (by decide) rfl (Nat.le_of_ble_eq_true rfl) ?_
  intro p e s m below meth c ls hsz S9 hr hlk hnm w hl
  subst hsz
  replace S9 : CallFix p m c cX6_bars 7 s _ wsX6_bars RX6 := S9
  have hx := S9.1
  have hb := S9.2.1
  have hown := S9.2.2.2.1
  have hts := S9.2.2.2.2
  replace hl : lv_has ls 7 [(0, .ref x), (1, .int (nI h)), (2, .int i), (3, .int (nI h9)), (4, .int j), (5, .int n)] := hl
  obtain ⟨hf, af, hR1, -⟩ := id hR
  refine lv_iload_n hx hb dX6_bars_0 rfl (lv_at hl 1 rfl) ?_
  refine lv_if_lt (tgt := 8) hx hb dX6_bars_1 (by decide) (fun c_1 => absurd c_1 (nI_pos (by have := hI.hd ho; omega))) (fun c_1 => ?_)
  refine lv_iload_n hx hb dX6_bars_4 rfl (lv_at hl 3 rfl) ?_
  refine lv_if_ge (tgt := 10) hx hb dX6_bars_5 (by decide) (fun c_5 => ?_) (fun c_5 => absurd (nI_pos' (by have := hI.hd ho9; omega)) c_5)
  refine lv_aload_n hx hb dX6_bars_10 rfl (lv_at hl 0 rfl) ?_
  refine lv_iload_n hx hb dX6_bars_11 rfl (lv_at hl 1 rfl) ?_
  refine k_vi S9 w (c_misThing l _ hR hI ho) hR1 rfl (cwV 1 hts gX6_bars_X6_isThing rfl rfl rfl (by decide +kernel) ⟨Nat.le_of_ble_eq_true rfl, Nat.le_of_ble_eq_true rfl⟩) rfl hl.1 rfl (Nat.le_of_ble_eq_true rfl) dX6_bars_12 ⟨Nat.le_of_ble_eq_true rfl, Nat.le_of_ble_eq_true rfl⟩ (fun r1 er1 => ?_)
  rw [if_neg (by omega)] at er1
  subst er1
  refine lv_if_ne (tgt := 26) hx hb dX6_bars_15 (by decide) (fun c_15 => absurd c_15 (by decide)) (fun c_15 => ?_)
  refine lv_aload_n hx hb dX6_bars_18 rfl (lv_at hl 0 rfl) ?_
  refine lv_iload_n hx hb dX6_bars_19 rfl (lv_at hl 3 rfl) ?_
  refine k_vi S9 w (c_misThing l _ hR hI ho9) hR1 rfl (cwV 1 hts gX6_bars_X6_isThing rfl rfl rfl (by decide +kernel) ⟨Nat.le_of_ble_eq_true rfl, Nat.le_of_ble_eq_true rfl⟩) rfl hl.1 rfl (Nat.le_of_ble_eq_true rfl) dX6_bars_20 ⟨Nat.le_of_ble_eq_true rfl, Nat.le_of_ble_eq_true rfl⟩ (fun r2 er2 => ?_)
  rw [if_neg (by omega)] at er2
  subst er2
  refine lv_if_eq (tgt := 28) hx hb dX6_bars_23 (by decide) (fun c_23 => ?_) (fun c_23 => absurd c_23 (by decide))
  refine lv_aload_n hx hb dX6_bars_28 rfl (lv_at hl 0 rfl) ?_
  refine lv_iload_n hx hb dX6_bars_29 rfl (lv_at hl 1 rfl) ?_
  refine k_vi S9 w (c_misOfObjects l _ hR hI ho) hR1 rfl (cwV 1 hts gX6_bars_X6_isOfObjects rfl rfl rfl (by decide +kernel) ⟨Nat.le_of_ble_eq_true rfl, Nat.le_of_ble_eq_true rfl⟩) rfl hl.1 rfl (Nat.le_of_ble_eq_true rfl) dX6_bars_30 ⟨Nat.le_of_ble_eq_true rfl, Nat.le_of_ble_eq_true rfl⟩ (fun r3 er3 => ?_)
  rw [if_pos (by omega)] at er3
  subst er3
  refine lv_aload_n hx hb dX6_bars_33 rfl (lv_at hl 0 rfl) ?_
  refine lv_iload_n hx hb dX6_bars_34 rfl (lv_at hl 3 rfl) ?_
  refine k_vi S9 w (c_misOfObjects l _ hR hI ho9) hR1 rfl (cwV 1 hts gX6_bars_X6_isOfObjects rfl rfl rfl (by decide +kernel) ⟨Nat.le_of_ble_eq_true rfl, Nat.le_of_ble_eq_true rfl⟩) rfl hl.1 rfl (Nat.le_of_ble_eq_true rfl) dX6_bars_35 ⟨Nat.le_of_ble_eq_true rfl, Nat.le_of_ble_eq_true rfl⟩ (fun r4 er4 => ?_)
  rw [if_pos (by omega)] at er4
  subst er4
  refine lv_icmp_ne (tgt := 62) hx hb dX6_bars_38 (by decide) (fun c_38 => absurd c_38 (by decide)) (fun c_38 => ?_)
  refine lv_aload_n hx hb dX6_bars_41 rfl (lv_at hl 0 rfl) ?_
  refine lv_iload_n hx hb dX6_bars_42 rfl (lv_at hl 1 rfl) ?_
  refine k_vi S9 w (c_misOfObjects l _ hR hI ho) hR1 rfl (cwV 1 hts gX6_bars_X6_isOfObjects rfl rfl rfl (by decide +kernel) ⟨Nat.le_of_ble_eq_true rfl, Nat.le_of_ble_eq_true rfl⟩) rfl hl.1 rfl (Nat.le_of_ble_eq_true rfl) dX6_bars_43 ⟨Nat.le_of_ble_eq_true rfl, Nat.le_of_ble_eq_true rfl⟩ (fun r5 er5 => ?_)
  rw [if_pos (by omega)] at er5
  subst er5
  refine lv_if_ne (tgt := 64) hx hb dX6_bars_46 (by decide) (fun c_46 => ?_) (fun c_46 => absurd c_46 (by decide))
  refine lv_iload_n hx hb dX6_bars_64 rfl (lv_at hl 2 rfl) ?_
  refine lv_if_lt (tgt := 78) hx hb dX6_bars_65 (by decide) (fun c_65 => ?_) (fun c_65 => ?_)
  · refine lv_iconst (v := 1) hx hb dX6_bars_78 (by decide) ?_
    refine lv_goto (tgt := 83) hx hb dX6_bars_79 (by decide) ?_
    refine lv_istore (lv' := [(6, .int 1), (0, .ref x), (1, .int (nI h)), (2, .int i), (3, .int (nI h9)), (4, .int j), (5, .int n)]) hx hb dX6_bars_83 hl (by decide) rfl (fun ls hl => ?_)
    refine lv_iload hx hb dX6_bars_85 (lv_at hl 0 rfl) ?_
    refine lv_if_ne (tgt := 123) hx hb dX6_bars_87 (by decide) (fun c_87 => ?_) (fun c_87 => absurd c_87 (by decide))
    refine lv_iconst (v := 4) hx hb dX6_bars_123 (by decide) ?_
    refine lv_goto (tgt := 128) hx hb dX6_bars_124 (by decide) ?_
    exact e_i S9 hr hlk (by unfold bR; rw [show ref3 (some o) (some o9) = 0 from by simp only [ref3]; rw [if_neg (by omega), if_neg (by omega), if_pos (by omega)], if_neg (by decide)]; rw [if_pos (show ¬ inS (o_n o) i n from fun q => q.1 c_65)]) dX6_bars_128
  · refine lv_iload hx hb dX6_bars_68 (lv_at hl 4 rfl) ?_
    refine lv_if_lt (tgt := 78) hx hb dX6_bars_70 (by decide) (fun c_70 => ?_) (fun c_70 => ?_)
    · refine lv_iconst (v := 1) hx hb dX6_bars_78 (by decide) ?_
      refine lv_goto (tgt := 83) hx hb dX6_bars_79 (by decide) ?_
      refine lv_istore (lv' := [(6, .int 1), (0, .ref x), (1, .int (nI h)), (2, .int i), (3, .int (nI h9)), (4, .int j), (5, .int n)]) hx hb dX6_bars_83 hl (by decide) rfl (fun ls hl => ?_)
      refine lv_iload hx hb dX6_bars_85 (lv_at hl 0 rfl) ?_
      refine lv_if_ne (tgt := 123) hx hb dX6_bars_87 (by decide) (fun c_87 => ?_) (fun c_87 => absurd c_87 (by decide))
      refine lv_iconst (v := 4) hx hb dX6_bars_123 (by decide) ?_
      refine lv_goto (tgt := 128) hx hb dX6_bars_124 (by decide) ?_
      exact e_i S9 hr hlk (by unfold bR; rw [show ref3 (some o) (some o9) = 0 from by simp only [ref3]; rw [if_neg (by omega), if_neg (by omega), if_pos (by omega)], if_neg (by decide)]; by_cases s1 : inS (o_n o) i n; (rw [if_neg (fun q => q s1), if_pos (show ¬ inS (o_n o9) j n from fun q => q.1 c_70)]); (rw [if_pos s1])) dX6_bars_128
    · refine lv_iload hx hb dX6_bars_73 (lv_at hl 5 rfl) ?_
      refine lv_if_ge (tgt := 82) hx hb dX6_bars_75 (by decide) (fun c_75 => ?_) (fun c_75 => ?_)
      · refine lv_iconst (v := 0) hx hb dX6_bars_82 (by decide) ?_
        refine lv_istore (lv' := [(6, .int 0), (0, .ref x), (1, .int (nI h)), (2, .int i), (3, .int (nI h9)), (4, .int j), (5, .int n)]) hx hb dX6_bars_83 hl (by decide) rfl (fun ls hl => ?_)
        refine lv_iload hx hb dX6_bars_85 (lv_at hl 0 rfl) ?_
        refine lv_if_ne (tgt := 123) hx hb dX6_bars_87 (by decide) (fun c_87 => absurd c_87 (by decide)) (fun c_87 => ?_)
        refine lv_iload_n hx hb dX6_bars_90 rfl (lv_at hl 3 rfl) ?_
        obtain ⟨v6, ev6⟩ : ∃ z : Int64, Int32.toInt64 i = z := ⟨_, rfl⟩
        refine lv_i2l (v := v6) hx hb dX6_bars_91 ev6 ?_
        refine lv_iload hx hb dX6_bars_92 (lv_at hl 6 rfl) ?_
        obtain ⟨v7, ev7⟩ : ∃ z : Int64, Int32.toInt64 n = z := ⟨_, rfl⟩
        refine lv_i2l (v := v7) hx hb dX6_bars_94 ev7 ?_
        refine lv_ladd hx hb dX6_bars_95 ?_
        refine lv_topl (fun v8 ev8 => ?_)
        refine lv_aload_n hx hb dX6_bars_96 rfl (lv_at hl 1 rfl) ?_
        refine lv_iload_n hx hb dX6_bars_97 rfl (lv_at hl 2 rfl) ?_
        refine k_vi S9 w (c_mlow l _ hR hI ho) hR1 rfl (cwV 1 hts gX6_bars_X6_low rfl rfl rfl (by decide +kernel) ⟨Nat.le_of_ble_eq_true rfl, Nat.le_of_ble_eq_true rfl⟩) rfl hl.1 rfl (Nat.le_of_ble_eq_true rfl) dX6_bars_98 ⟨Nat.le_of_ble_eq_true rfl, Nat.le_of_ble_eq_true rfl⟩ (fun r9 er9 => ?_)
        rw [loV_row (by omega)] at er9
        subst er9
        obtain ⟨v10, ev10⟩ : ∃ z : Int64, Int32.toInt64 (nI (o_n o)) = z := ⟨_, rfl⟩
        refine lv_i2l (v := v10) hx hb dX6_bars_101 ev10 ?_
        refine W.lcmp hx hb dX6_bars_102 ?_
        refine lv_topi (fun v11 ev11 => ?_)
        refine lv_if_gt (tgt := 123) hx hb dX6_bars_103 (by decide) (fun c_103 => ?_) (fun c_103 => ?_)
        · refine lv_iconst (v := 4) hx hb dX6_bars_123 (by decide) ?_
          refine lv_goto (tgt := 128) hx hb dX6_bars_124 (by decide) ?_
          exact e_i S9 hr hlk (by have n0 := (hI.ob ho).2; have n9 := (hI.ob ho9).2; have nn0 : ¬ n < 0 := (by rw [ii_lt]; rw [ii_le] at c_75; omega); rw [span_cmp (show o_n o < 2 ^ 31 by omega) ev6 ev7 ev8 ev10 ev11] at c_103; unfold bR; rw [show ref3 (some o) (some o9) = 0 from by simp only [ref3]; rw [if_neg (by omega), if_neg (by omega), if_pos (by omega)], if_neg (by decide)]; rw [if_pos (show ¬ inS (o_n o) i n from fun q => c_103 q.2.2)]) dX6_bars_128
        · refine lv_iload hx hb dX6_bars_106 (lv_at hl 5 rfl) ?_
          obtain ⟨v12, ev12⟩ : ∃ z : Int64, Int32.toInt64 j = z := ⟨_, rfl⟩
          refine lv_i2l (v := v12) hx hb dX6_bars_108 ev12 ?_
          refine lv_iload hx hb dX6_bars_109 (lv_at hl 6 rfl) ?_
          obtain ⟨v13, ev13⟩ : ∃ z : Int64, Int32.toInt64 n = z := ⟨_, rfl⟩
          refine lv_i2l (v := v13) hx hb dX6_bars_111 ev13 ?_
          refine lv_ladd hx hb dX6_bars_112 ?_
          refine lv_topl (fun v14 ev14 => ?_)
          refine lv_aload_n hx hb dX6_bars_113 rfl (lv_at hl 1 rfl) ?_
          refine lv_iload_n hx hb dX6_bars_114 rfl (lv_at hl 4 rfl) ?_
          refine k_vi S9 w (c_mlow l _ hR hI ho9) hR1 rfl (cwV 1 hts gX6_bars_X6_low rfl rfl rfl (by decide +kernel) ⟨Nat.le_of_ble_eq_true rfl, Nat.le_of_ble_eq_true rfl⟩) rfl hl.1 rfl (Nat.le_of_ble_eq_true rfl) dX6_bars_115 ⟨Nat.le_of_ble_eq_true rfl, Nat.le_of_ble_eq_true rfl⟩ (fun r15 er15 => ?_)
          rw [loV_row (by omega)] at er15
          subst er15
          obtain ⟨v16, ev16⟩ : ∃ z : Int64, Int32.toInt64 (nI (o_n o9)) = z := ⟨_, rfl⟩
          refine lv_i2l (v := v16) hx hb dX6_bars_118 ev16 ?_
          refine W.lcmp hx hb dX6_bars_119 ?_
          refine lv_topi (fun v17 ev17 => ?_)
          refine lv_if_le (tgt := 127) hx hb dX6_bars_120 (by decide) (fun c_120 => ?_) (fun c_120 => ?_)
          · refine lv_iconst (v := 0) hx hb dX6_bars_127 (by decide) ?_
            exact e_i S9 hr hlk (by have n0 := (hI.ob ho).2; have n9 := (hI.ob ho9).2; have nn0 : ¬ n < 0 := (by rw [ii_lt]; rw [ii_le] at c_75; omega); rw [span_cmp (show o_n o < 2 ^ 31 by omega) ev6 ev7 ev8 ev10 ev11] at c_103; have s1 : inS (o_n o) i n := ⟨c_65, nn0, Decidable.not_not.mp c_103⟩; have c2 := span_cmp (show o_n o9 < 2 ^ 31 by omega) ev12 ev13 ev14 ev16 ev17; have s2 : inS (o_n o9) j n := ⟨c_70, nn0, Decidable.not_not.mp (fun q => absurd (c2.mpr q) (by rw [ii_lt]; rw [ii_le] at c_120; omega))⟩; unfold bR; rw [show ref3 (some o) (some o9) = 0 from by simp only [ref3]; rw [if_neg (by omega), if_neg (by omega), if_pos (by omega)], if_neg (by decide)]; rw [if_neg (fun q => q s1), if_neg (fun q => q s2)]) dX6_bars_128
          · refine lv_iconst (v := 4) hx hb dX6_bars_123 (by decide) ?_
            refine lv_goto (tgt := 128) hx hb dX6_bars_124 (by decide) ?_
            exact e_i S9 hr hlk (by have n0 := (hI.ob ho).2; have n9 := (hI.ob ho9).2; have nn0 : ¬ n < 0 := (by rw [ii_lt]; rw [ii_le] at c_75; omega); rw [span_cmp (show o_n o < 2 ^ 31 by omega) ev6 ev7 ev8 ev10 ev11] at c_103; have s1 : inS (o_n o) i n := ⟨c_65, nn0, Decidable.not_not.mp c_103⟩; have c2 := span_cmp (show o_n o9 < 2 ^ 31 by omega) ev12 ev13 ev14 ev16 ev17; have s2 : ¬ inS (o_n o9) j n := (fun q => c2.mp (by rw [ii_lt]; rw [ii_le] at c_120; omega) q.2.2); unfold bR; rw [show ref3 (some o) (some o9) = 0 from by simp only [ref3]; rw [if_neg (by omega), if_neg (by omega), if_pos (by omega)], if_neg (by decide)]; rw [if_neg (fun q => q s1), if_pos s2]) dX6_bars_128
      · refine lv_iconst (v := 1) hx hb dX6_bars_78 (by decide) ?_
        refine lv_goto (tgt := 83) hx hb dX6_bars_79 (by decide) ?_
        refine lv_istore (lv' := [(6, .int 1), (0, .ref x), (1, .int (nI h)), (2, .int i), (3, .int (nI h9)), (4, .int j), (5, .int n)]) hx hb dX6_bars_83 hl (by decide) rfl (fun ls hl => ?_)
        refine lv_iload hx hb dX6_bars_85 (lv_at hl 0 rfl) ?_
        refine lv_if_ne (tgt := 123) hx hb dX6_bars_87 (by decide) (fun c_87 => ?_) (fun c_87 => absurd c_87 (by decide))
        refine lv_iconst (v := 4) hx hb dX6_bars_123 (by decide) ?_
        refine lv_goto (tgt := 128) hx hb dX6_bars_124 (by decide) ?_
        exact e_i S9 hr hlk (by unfold bR; rw [show ref3 (some o) (some o9) = 0 from by simp only [ref3]; rw [if_neg (by omega), if_neg (by omega), if_pos (by omega)], if_neg (by decide)]; rw [if_pos (show ¬ inS (o_n o) i n from (fun q => c_75 (by have := q.2.1; rw [ii_lt] at this; rw [ii_le]; omega)))]) dX6_bars_128

set_option maxHeartbeats 4000000 in
set_option maxRecDepth 100000 in
theorem c_mbars_12 (l : Launch) {G : Gt} {ws : va_W} (sz : Nat) {x ha at_ li : Nat} {S : St} (hR : RpM G x ha at_ li S ws) (hI : Inv S) {h : Nat} {o : Ob} (ho : s_o S h = some o) {h9 : Nat} {o9 : Ob} (ho9 : s_o S h9 = some o9) (hk : 4 ≤ o_k o) (hm : o_k o ≤ 6) (hk9 : 7 ≤ o_k o9) (i j n : Int32) : Met l yX6_bars wsX6_bars ({ frames := 2, cells := 0, slots := 0, locals := 42 } : Room) (Pw G [.ref x, .int (nI h), .int i, .int (nI h9), .int j, .int n] ws sz) (vp_Si (fun r : Int32 => r = bR o o9 i j n)) 0 0 (fun _ => False) := by
  refine Met_pw (cc := cX6_bars) (maxL := 7) (ret := (some .int)) (by decide) rfl (Nat.le_of_ble_eq_true rfl) ?_
  intro p e s m below meth c ls hsz S9 hr hlk hnm w hl
  subst hsz
  replace S9 : CallFix p m c cX6_bars 7 s _ wsX6_bars RX6 := S9
  have hx := S9.1
  have hb := S9.2.1
  have hown := S9.2.2.2.1
  have hts := S9.2.2.2.2
  replace hl : lv_has ls 7 [(0, .ref x), (1, .int (nI h)), (2, .int i), (3, .int (nI h9)), (4, .int j), (5, .int n)] := hl
  obtain ⟨hf, af, hR1, -⟩ := id hR
  refine lv_iload_n hx hb dX6_bars_0 rfl (lv_at hl 1 rfl) ?_
  refine lv_if_lt (tgt := 8) hx hb dX6_bars_1 (by decide) (fun c_1 => absurd c_1 (nI_pos (by have := hI.hd ho; omega))) (fun c_1 => ?_)
  refine lv_iload_n hx hb dX6_bars_4 rfl (lv_at hl 3 rfl) ?_
  refine lv_if_ge (tgt := 10) hx hb dX6_bars_5 (by decide) (fun c_5 => ?_) (fun c_5 => absurd (nI_pos' (by have := hI.hd ho9; omega)) c_5)
  refine lv_aload_n hx hb dX6_bars_10 rfl (lv_at hl 0 rfl) ?_
  refine lv_iload_n hx hb dX6_bars_11 rfl (lv_at hl 1 rfl) ?_
  refine k_vi S9 w (c_misThing l _ hR hI ho) hR1 rfl (cwV 1 hts gX6_bars_X6_isThing rfl rfl rfl (by decide +kernel) ⟨Nat.le_of_ble_eq_true rfl, Nat.le_of_ble_eq_true rfl⟩) rfl hl.1 rfl (Nat.le_of_ble_eq_true rfl) dX6_bars_12 ⟨Nat.le_of_ble_eq_true rfl, Nat.le_of_ble_eq_true rfl⟩ (fun r1 er1 => ?_)
  rw [if_neg (by omega)] at er1
  subst er1
  refine lv_if_ne (tgt := 26) hx hb dX6_bars_15 (by decide) (fun c_15 => absurd c_15 (by decide)) (fun c_15 => ?_)
  refine lv_aload_n hx hb dX6_bars_18 rfl (lv_at hl 0 rfl) ?_
  refine lv_iload_n hx hb dX6_bars_19 rfl (lv_at hl 3 rfl) ?_
  refine k_vi S9 w (c_misThing l _ hR hI ho9) hR1 rfl (cwV 1 hts gX6_bars_X6_isThing rfl rfl rfl (by decide +kernel) ⟨Nat.le_of_ble_eq_true rfl, Nat.le_of_ble_eq_true rfl⟩) rfl hl.1 rfl (Nat.le_of_ble_eq_true rfl) dX6_bars_20 ⟨Nat.le_of_ble_eq_true rfl, Nat.le_of_ble_eq_true rfl⟩ (fun r2 er2 => ?_)
  rw [if_pos (by omega)] at er2
  subst er2
  refine lv_if_eq (tgt := 28) hx hb dX6_bars_23 (by decide) (fun c_23 => absurd c_23 (by decide)) (fun c_23 => ?_)
  refine lv_iconst (v := 2) hx hb dX6_bars_26 (by decide) ?_
  exact e_i S9 hr hlk (by unfold bR; rw [show ref3 (some o) (some o9) = 2 from by simp only [ref3]; rw [if_neg (by omega), if_pos hk9], if_pos (by decide)]) dX6_bars_27

set_option maxHeartbeats 4000000 in
set_option maxRecDepth 100000 in
theorem c_mbars_20 (l : Launch) {G : Gt} {ws : va_W} (sz : Nat) {x ha at_ li : Nat} {S : St} (hR : RpM G x ha at_ li S ws) (hI : Inv S) {h : Nat} {o : Ob} (ho : s_o S h = some o) {h9 : Nat} {o9 : Ob} (ho9 : s_o S h9 = some o9) (hk : 7 ≤ o_k o) (hk9 : o_k o9 ≤ 3) (i j n : Int32) : Met l yX6_bars wsX6_bars ({ frames := 2, cells := 0, slots := 0, locals := 42 } : Room) (Pw G [.ref x, .int (nI h), .int i, .int (nI h9), .int j, .int n] ws sz) (vp_Si (fun r : Int32 => r = bR o o9 i j n)) 0 0 (fun _ => False) := by
  refine Met_pw (cc := cX6_bars) (maxL := 7) (ret := (some .int)) (by decide) rfl (Nat.le_of_ble_eq_true rfl) ?_
  intro p e s m below meth c ls hsz S9 hr hlk hnm w hl
  subst hsz
  replace S9 : CallFix p m c cX6_bars 7 s _ wsX6_bars RX6 := S9
  have hx := S9.1
  have hb := S9.2.1
  have hown := S9.2.2.2.1
  have hts := S9.2.2.2.2
  replace hl : lv_has ls 7 [(0, .ref x), (1, .int (nI h)), (2, .int i), (3, .int (nI h9)), (4, .int j), (5, .int n)] := hl
  obtain ⟨hf, af, hR1, -⟩ := id hR
  refine lv_iload_n hx hb dX6_bars_0 rfl (lv_at hl 1 rfl) ?_
  refine lv_if_lt (tgt := 8) hx hb dX6_bars_1 (by decide) (fun c_1 => absurd c_1 (nI_pos (by have := hI.hd ho; omega))) (fun c_1 => ?_)
  refine lv_iload_n hx hb dX6_bars_4 rfl (lv_at hl 3 rfl) ?_
  refine lv_if_ge (tgt := 10) hx hb dX6_bars_5 (by decide) (fun c_5 => ?_) (fun c_5 => absurd (nI_pos' (by have := hI.hd ho9; omega)) c_5)
  refine lv_aload_n hx hb dX6_bars_10 rfl (lv_at hl 0 rfl) ?_
  refine lv_iload_n hx hb dX6_bars_11 rfl (lv_at hl 1 rfl) ?_
  refine k_vi S9 w (c_misThing l _ hR hI ho) hR1 rfl (cwV 1 hts gX6_bars_X6_isThing rfl rfl rfl (by decide +kernel) ⟨Nat.le_of_ble_eq_true rfl, Nat.le_of_ble_eq_true rfl⟩) rfl hl.1 rfl (Nat.le_of_ble_eq_true rfl) dX6_bars_12 ⟨Nat.le_of_ble_eq_true rfl, Nat.le_of_ble_eq_true rfl⟩ (fun r1 er1 => ?_)
  rw [if_pos (by omega)] at er1
  subst er1
  refine lv_if_ne (tgt := 26) hx hb dX6_bars_15 (by decide) (fun c_15 => ?_) (fun c_15 => absurd c_15 (by decide))
  refine lv_iconst (v := 2) hx hb dX6_bars_26 (by decide) ?_
  exact e_i S9 hr hlk (by unfold bR; rw [show ref3 (some o) (some o9) = 2 from by simp only [ref3]; rw [if_pos hk], if_pos (by decide)]) dX6_bars_27

set_option maxHeartbeats 4000000 in
set_option maxRecDepth 100000 in
theorem c_mbars_21 (l : Launch) {G : Gt} {ws : va_W} (sz : Nat) {x ha at_ li : Nat} {S : St} (hR : RpM G x ha at_ li S ws) (hI : Inv S) {h : Nat} {o : Ob} (ho : s_o S h = some o) {h9 : Nat} {o9 : Ob} (ho9 : s_o S h9 = some o9) (hk : 7 ≤ o_k o) (hk9 : 4 ≤ o_k o9) (hm9 : o_k o9 ≤ 6) (i j n : Int32) : Met l yX6_bars wsX6_bars ({ frames := 2, cells := 0, slots := 0, locals := 42 } : Room) (Pw G [.ref x, .int (nI h), .int i, .int (nI h9), .int j, .int n] ws sz) (vp_Si (fun r : Int32 => r = bR o o9 i j n)) 0 0 (fun _ => False) := by
  refine Met_pw (cc := cX6_bars) (maxL := 7) (ret := (some .int)) (by decide) rfl (Nat.le_of_ble_eq_true rfl) ?_
  intro p e s m below meth c ls hsz S9 hr hlk hnm w hl
  subst hsz
  replace S9 : CallFix p m c cX6_bars 7 s _ wsX6_bars RX6 := S9
  have hx := S9.1
  have hb := S9.2.1
  have hown := S9.2.2.2.1
  have hts := S9.2.2.2.2
  replace hl : lv_has ls 7 [(0, .ref x), (1, .int (nI h)), (2, .int i), (3, .int (nI h9)), (4, .int j), (5, .int n)] := hl
  obtain ⟨hf, af, hR1, -⟩ := id hR
  refine lv_iload_n hx hb dX6_bars_0 rfl (lv_at hl 1 rfl) ?_
  refine lv_if_lt (tgt := 8) hx hb dX6_bars_1 (by decide) (fun c_1 => absurd c_1 (nI_pos (by have := hI.hd ho; omega))) (fun c_1 => ?_)
  refine lv_iload_n hx hb dX6_bars_4 rfl (lv_at hl 3 rfl) ?_
  refine lv_if_ge (tgt := 10) hx hb dX6_bars_5 (by decide) (fun c_5 => ?_) (fun c_5 => absurd (nI_pos' (by have := hI.hd ho9; omega)) c_5)
  refine lv_aload_n hx hb dX6_bars_10 rfl (lv_at hl 0 rfl) ?_
  refine lv_iload_n hx hb dX6_bars_11 rfl (lv_at hl 1 rfl) ?_
  refine k_vi S9 w (c_misThing l _ hR hI ho) hR1 rfl (cwV 1 hts gX6_bars_X6_isThing rfl rfl rfl (by decide +kernel) ⟨Nat.le_of_ble_eq_true rfl, Nat.le_of_ble_eq_true rfl⟩) rfl hl.1 rfl (Nat.le_of_ble_eq_true rfl) dX6_bars_12 ⟨Nat.le_of_ble_eq_true rfl, Nat.le_of_ble_eq_true rfl⟩ (fun r1 er1 => ?_)
  rw [if_pos (by omega)] at er1
  subst er1
  refine lv_if_ne (tgt := 26) hx hb dX6_bars_15 (by decide) (fun c_15 => ?_) (fun c_15 => absurd c_15 (by decide))
  refine lv_iconst (v := 2) hx hb dX6_bars_26 (by decide) ?_
  exact e_i S9 hr hlk (by unfold bR; rw [show ref3 (some o) (some o9) = 2 from by simp only [ref3]; rw [if_pos hk], if_pos (by decide)]) dX6_bars_27

set_option maxHeartbeats 4000000 in
set_option maxRecDepth 100000 in
theorem c_mbars_22 (l : Launch) {G : Gt} {ws : va_W} (sz : Nat) {x ha at_ li : Nat} {S : St} (hR : RpM G x ha at_ li S ws) (hI : Inv S) {h : Nat} {o : Ob} (ho : s_o S h = some o) {h9 : Nat} {o9 : Ob} (ho9 : s_o S h9 = some o9) (hk : 7 ≤ o_k o) (hk9 : 7 ≤ o_k o9) (i j n : Int32) : Met l yX6_bars wsX6_bars ({ frames := 2, cells := 0, slots := 0, locals := 42 } : Room) (Pw G [.ref x, .int (nI h), .int i, .int (nI h9), .int j, .int n] ws sz) (vp_Si (fun r : Int32 => r = bR o o9 i j n)) 0 0 (fun _ => False) := by
  refine Met_pw (cc := cX6_bars) (maxL := 7) (ret := (some .int)) (by decide) rfl (Nat.le_of_ble_eq_true rfl) ?_
  intro p e s m below meth c ls hsz S9 hr hlk hnm w hl
  subst hsz
  replace S9 : CallFix p m c cX6_bars 7 s _ wsX6_bars RX6 := S9
  have hx := S9.1
  have hb := S9.2.1
  have hown := S9.2.2.2.1
  have hts := S9.2.2.2.2
  replace hl : lv_has ls 7 [(0, .ref x), (1, .int (nI h)), (2, .int i), (3, .int (nI h9)), (4, .int j), (5, .int n)] := hl
  obtain ⟨hf, af, hR1, -⟩ := id hR
  refine lv_iload_n hx hb dX6_bars_0 rfl (lv_at hl 1 rfl) ?_
  refine lv_if_lt (tgt := 8) hx hb dX6_bars_1 (by decide) (fun c_1 => absurd c_1 (nI_pos (by have := hI.hd ho; omega))) (fun c_1 => ?_)
  refine lv_iload_n hx hb dX6_bars_4 rfl (lv_at hl 3 rfl) ?_
  refine lv_if_ge (tgt := 10) hx hb dX6_bars_5 (by decide) (fun c_5 => ?_) (fun c_5 => absurd (nI_pos' (by have := hI.hd ho9; omega)) c_5)
  refine lv_aload_n hx hb dX6_bars_10 rfl (lv_at hl 0 rfl) ?_
  refine lv_iload_n hx hb dX6_bars_11 rfl (lv_at hl 1 rfl) ?_
  refine k_vi S9 w (c_misThing l _ hR hI ho) hR1 rfl (cwV 1 hts gX6_bars_X6_isThing rfl rfl rfl (by decide +kernel) ⟨Nat.le_of_ble_eq_true rfl, Nat.le_of_ble_eq_true rfl⟩) rfl hl.1 rfl (Nat.le_of_ble_eq_true rfl) dX6_bars_12 ⟨Nat.le_of_ble_eq_true rfl, Nat.le_of_ble_eq_true rfl⟩ (fun r1 er1 => ?_)
  rw [if_pos (by omega)] at er1
  subst er1
  refine lv_if_ne (tgt := 26) hx hb dX6_bars_15 (by decide) (fun c_15 => ?_) (fun c_15 => absurd c_15 (by decide))
  refine lv_iconst (v := 2) hx hb dX6_bars_26 (by decide) ?_
  exact e_i S9 hr hlk (by unfold bR; rw [show ref3 (some o) (some o9) = 2 from by simp only [ref3]; rw [if_pos hk], if_pos (by decide)]) dX6_bars_27

theorem u_mbars (l : Launch) {G : Gt} {ws : va_W} (sz : Nat) {x ha at_ li : Nat} {S : St} (hR : RpM G x ha at_ li S ws) (hI : Inv S) {h : Nat} {o : Ob} (ho : s_o S h = some o) {h9 : Nat} {o9 : Ob} (ho9 : s_o S h9 = some o9) (i j n : Int32) : Met l yX6_bars wsX6_bars ({ frames := 2, cells := 0, slots := 0, locals := 42 } : Room) (Pw G [.ref x, .int (nI h), .int i, .int (nI h9), .int j, .int n] ws sz) (vp_Si (fun r : Int32 => r = bR o o9 i j n)) 0 0 (fun _ => False) := by
  rcases (show o_k o ≤ 3 ∨ (4 ≤ o_k o ∧ o_k o ≤ 6) ∨ 7 ≤ o_k o by omega) with hk | ⟨hk, hm⟩ | hk <;> rcases (show o_k o9 ≤ 3 ∨ (4 ≤ o_k o9 ∧ o_k o9 ≤ 6) ∨ 7 ≤ o_k o9 by omega) with h0 | ⟨h0, h6⟩ | h0
  · exact c_mbars_00 l sz hR hI ho ho9 hk h0 i j n
  · exact c_mbars_01 l sz hR hI ho ho9 hk h0 h6 i j n
  · exact c_mbars_02 l sz hR hI ho ho9 hk h0 i j n
  · exact c_mbars_10 l sz hR hI ho ho9 hk hm h0 i j n
  · exact c_mbars_11 l sz hR hI ho ho9 hk hm h0 h6 i j n
  · exact c_mbars_12 l sz hR hI ho ho9 hk hm h0 i j n
  · exact c_mbars_20 l sz hR hI ho ho9 hk h0 i j n
  · exact c_mbars_21 l sz hR hI ho ho9 hk h0 h6 i j n
  · exact c_mbars_22 l sz hR hI ho ho9 hk h0 i j n
