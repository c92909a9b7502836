theorem mod6 {L q : Nat} (hL : L ≤ 3072) (hq : 6 * q ≤ L) {y z : Int32} (hy : y = nI (6 * q)) (hz : z = nI L - 6) : z < y ↔ L < 6 * q + 6 := by
  have e6 : (6 : Int32) = nI 6 := rfl
  rw [hy, hz, ii_lt, e6, pk_sub_toInt (by omega) (by omega), nI_toInt (by omega)]
  omega
theorem pin {L q k : Nat} (hL : L ≤ 3072) (h : 6 * q + 6 ≤ L) (hk : k < 6) {y : Int32} (hy : y = nI (6 * q)) : vp_in (y + nI k) L := by
  rw [hy, nI_add]
  exact vp_in_nI (by omega) (by omega)
set_option maxHeartbeats 40000000 in
set_option maxRecDepth 100000 in
/-- THE LAW'S LOOP -/
theorem law_loop {p : Program} {e : Env} {s : State} {m : MethodId} {below : List Frame} {meth : Method} {c : Code} (l : Launch) {b L : Nat} {xs : Nat → Int32} (hL : L ≤ 3072) (C0 : lw_At p s m meth c b L xs) {G : Gt} {x0 m0 sh li ha at_ li2 : Nat} :
    ∀ (t q : Nat) (y : Int32) (S7 : St) (ad7 ar7 : Nat → Nat) (wx wm : va_W) (H : Heap) (lc : List Loc) (ls : Array Slot), L - 6 * q < t → 6 * q ≤ L → y = nI (6 * q) → Inv S7 → RpX G x0 sh li ad7 ar7 S7 wx → RpM G m0 ha at_ li2 S7 wm → Wd G (fun z : Nat => s.heap.size ≤ z) s wx H lc → Wd G (fun z : Nat => s.heap.size ≤ z) s wm H lc → dsj wx wm → lv_has ls 4 [(3, .int y), (2, .ref m0), (1, .ref x0), (0, .ref b)] →
      W p l e room_1 s m #[Value.ref b] below meth c H lc (10 + 2 * q) (62000 + 2005 * q) (lw_Z below #[Value.ref b] s) (F0 m 18 ls []) := by
  obtain ⟨hx, hb, hr, hml, hown, hts0, hX, hbl, hlocks, hgv⟩ := id C0
  have hbA : ¬ (fun z : Nat => s.heap.size ≤ z) b := Nat.not_le.mpr hbl
  have hts : ∀ w ∈ wsL_law, w.before #[Value.ref b] s = true := fun w h => hts0 w (wsL_law_in w h)
  have S9 : CallFix p m c cL_law 4 s #[Value.ref b] wsL_law RL := ⟨hx, hb, hml, hown, hts⟩
  intro t
  induction t with
  | zero => intro q y S7 ad7 ar7 wx wm H lc ls ht; exact absurd ht (Nat.not_lt_zero _)
  | succ t ih =>
    intro q y S7 ad7 ar7 wx wm H lc ls ht hq hy hI7 hR7 hM7 w7 v7 d7 hl
    refine lv_iload_n hx hb dL_law_18 rfl (lv_at hl 0 rfl) ?_
    refine lv_aload_n hx hb dL_law_19 rfl (lv_at hl 3 rfl) ?_
    refine va_slen hx hb hX hbl hbA w7.2.2.1 dL_law_20 ?_
    refine lv_bipush (v := 6) hx hb dL_law_21 (by decide) ?_
    refine lv_isub hx hb dL_law_23 ?_
    refine lv_topi (fun z ez => ?_)
    refine lv_icmp_gt (tgt := 767) hx hb dL_law_24 (by decide) (fun c24 => ?_) (fun c24 => ?_)
    · refine lv_iconst (v := 1) hx hb dL_law_767 (by decide) ?_
      refine va_forget w7.2.2.1.2.2 ?_
      refine W.widen (k := 600000) (n := 7302250) (by omega) (by omega) ?_
      exact lw_ret hx hb hr hlocks dL_law_768
    · have h6 : 6 * q + 6 ≤ L := by
        have := fun h => c24 ((mod6 hL hq hy ez).mpr h)
        exact Nat.le_of_not_lt this
      have pin0 : vp_in y L := by rw [hy]; exact vp_in_nI (by omega) (by omega)
      have pin1 : vp_in (y + 1) L := pin (k := 1) hL h6 (by decide) hy
      have pin2 : vp_in (y + 2) L := pin (k := 2) hL h6 (by decide) hy
      have pin3 : vp_in (y + 3) L := pin (k := 3) hL h6 (by decide) hy
      have pin4 : vp_in (y + 4) L := pin (k := 4) hL h6 (by decide) hy
      have pin5 : vp_in (y + 5) L := pin (k := 5) hL h6 (by decide) hy
      obtain ⟨hf0, af0, mx, -⟩ := id hM7
      have nxt : ∀ (S8 : St) (ad8 ar8 : Nat → Nat) (wx8 wm8 : va_W) (H8 : Heap) (lc8 : List Loc) (cells slots : Nat), cells ≤ 10 + 2 * (q + 1) → slots ≤ 62000 + 2005 * (q + 1) → Inv S8 → RpX G x0 sh li ad8 ar8 S8 wx8 → RpM G m0 ha at_ li2 S8 wm8 → Wd G (fun z : Nat => s.heap.size ≤ z) s wx8 H8 lc8 → Wd G (fun z : Nat => s.heap.size ≤ z) s wm8 H8 lc8 → dsj wx8 wm8 → W p l e room_1 s m #[Value.ref b] below meth c H8 lc8 cells slots (lw_Z below #[Value.ref b] s) (F0 m 761 ls []) := by
        intro S8 ad8 ar8 wx8 wm8 H8 lc8 cells slots hc hs hI8 hR8 hM8 w8 v8 d8
        refine W.widen hc hs ?_
        obtain ⟨y2, ey2⟩ : ∃ z : Int32, z = y + 6 := ⟨_, rfl⟩
        refine lv_iinc (v := y2) (lv' := [(3, .int y2), (2, .ref m0), (1, .ref x0), (0, .ref b)]) hx hb dL_law_761 hl (k := 0) rfl (by rw [ey2]; rfl) (by decide) rfl (fun ls hl => ?_)
        refine lv_goto (tgt := 18) hx hb dL_law_764 (by decide) ?_
        exact ih (q + 1) y2 S8 ad8 ar8 wx8 wm8 H8 lc8 ls (by omega) (by omega) (by rw [ey2, hy]; exact nI_add (6 * q) 6) hI8 hR8 hM8 w8 v8 d8 hl
      refine lv_aload_n hx hb dL_law_27 rfl (lv_at hl 3 rfl) ?_
      refine lv_iload_n hx hb dL_law_28 rfl (lv_at hl 0 rfl) ?_
      refine va_sld hx hb hX hbl hbA w7.2.2.1 pin0 dL_law_29 ?_
      refine lv_bipush (v := 31) hx hb dL_law_30 (by decide) ?_
      refine lv_iand hx hb dL_law_32 ?_
      refine lv_topi (fun z2 ez2 => ?_)
      obtain ⟨k, hk, ek⟩ := pk_andE (xs y.toNatClampNeg) (m := 31) 5 (by decide)
      obtain rfl : z2 = nI k := ez2.trans ek
      rcases (show k = 0 ∨ k = 1 ∨ k = 2 ∨ k = 3 ∨ k = 4 ∨ k = 5 ∨ k = 6 ∨ k = 7 ∨ k = 8 ∨ k = 9 ∨ k = 10 ∨ k = 11 ∨ k = 12 ∨ k = 13 ∨ k = 14 ∨ k = 15 ∨ k = 16 ∨ k = 17 ∨ k = 18 ∨ k = 19 ∨ 20 ≤ k by omega) with rfl | rfl | rfl | rfl | rfl | rfl | rfl | rfl | rfl | rfl | rfl | rfl | rfl | rfl | rfl | rfl | rfl | rfl | rfl | rfl | hk20
      · refine lv_tableIn (off := 95) (tgt := 128) hx hb dL_law_33 (by decide) (by decide) (by decide) (by decide) ?_
        refine lv_aload_n hx hb dL_law_128 rfl (lv_at hl 2 rfl) ?_
        refine lv_aload_n hx hb dL_law_129 rfl (lv_at hl 3 rfl) ?_
        refine lv_iload_n hx hb dL_law_130 rfl (lv_at hl 0 rfl) ?_
        refine lv_iconst (v := 1) hx hb dL_law_131 (by decide) ?_
        refine lv_iadd hx hb dL_law_132 ?_
        refine va_sld hx hb hX hbl hbA w7.2.2.1 pin1 dL_law_133 ?_
        refine lv_aload_n hx hb dL_law_134 rfl (lv_at hl 3 rfl) ?_
        refine lv_iload_n hx hb dL_law_135 rfl (lv_at hl 0 rfl) ?_
        refine lv_iconst (v := 2) hx hb dL_law_136 (by decide) ?_
        refine lv_iadd hx hb dL_law_137 ?_
        refine va_sld hx hb hX hbl hbA w7.2.2.1 pin2 dL_law_138 ?_
        refine kl_vi S9 w7 v7 d7 (c_row l _ hR7 hI7 _ _) hR7.1 rfl (cwV 2 hts gL_law_X5_row rfl rfl rfl (by decide +kernel) ⟨Nat.le_of_ble_eq_true rfl, Nat.le_of_ble_eq_true rfl⟩) rfl hl.1 rfl (Nat.le_of_ble_eq_true rfl) dL_law_139 ⟨show 10 + 2 * q + 2 ≤ 600000 by omega, show 62000 + 2005 * q + 2005 ≤ 7302250 by omega⟩ (fun r1 wx8 H8 lc8 p1 w8 v8 d8 => ?_)
        obtain ⟨e1, ad8, ar8, hR8⟩ := p1
        refine lv_aload_n hx hb dL_law_142 rfl (lv_at hl 1 rfl) ?_
        refine lv_aload_n hx hb dL_law_143 rfl (lv_at hl 3 rfl) ?_
        refine lv_iload_n hx hb dL_law_144 rfl (lv_at hl 0 rfl) ?_
        refine lv_iconst (v := 1) hx hb dL_law_145 (by decide) ?_
        refine lv_iadd hx hb dL_law_146 ?_
        refine va_sld hx hb hX hbl hbA w8.2.2.1 pin1 dL_law_147 ?_
        refine lv_aload_n hx hb dL_law_148 rfl (lv_at hl 3 rfl) ?_
        refine lv_iload_n hx hb dL_law_149 rfl (lv_at hl 0 rfl) ?_
        refine lv_iconst (v := 2) hx hb dL_law_150 (by decide) ?_
        refine lv_iadd hx hb dL_law_151 ?_
        refine va_sld hx hb hX hbl hbA w8.2.2.1 pin2 dL_law_152 ?_
        refine kl_vi S9 v8 w8 d8.symm (c_mrow l _ hM7 hI7 _ _) mx rfl (cwV 2 hts gL_law_X6_row rfl rfl rfl (by decide +kernel) ⟨Nat.le_of_ble_eq_true rfl, Nat.le_of_ble_eq_true rfl⟩) rfl hl.1 rfl (Nat.le_of_ble_eq_true rfl) dL_law_153 ⟨show 10 + 2 * q + 2 + 0 ≤ 600000 by omega, show 62000 + 2005 * q + 2005 + 0 ≤ 7302250 by omega⟩ (fun r2 wm9 H9 lc9 p2 v9 w9 d9 => ?_)
        obtain ⟨e2, hM9⟩ := p2
        refine lv_icmp_eq (tgt := 761) hx hb dL_law_156 (by decide) (fun _ => ?_) (fun cq => absurd (e1.trans e2.symm) cq)
        exact nxt _ _ _ _ _ _ _ _ _ (by omega) (by omega) (inv_row hI7 _ _) hR8 hM9 w9 v9 d9.symm
      · refine lv_tableIn (off := 128) (tgt := 161) hx hb dL_law_33 (by decide) (by decide) (by decide) (by decide) ?_
        refine lv_aload_n hx hb dL_law_161 rfl (lv_at hl 2 rfl) ?_
        refine lv_aload_n hx hb dL_law_162 rfl (lv_at hl 3 rfl) ?_
        refine lv_iload_n hx hb dL_law_163 rfl (lv_at hl 0 rfl) ?_
        refine lv_iconst (v := 1) hx hb dL_law_164 (by decide) ?_
        refine lv_iadd hx hb dL_law_165 ?_
        refine va_sld hx hb hX hbl hbA w7.2.2.1 pin1 dL_law_166 ?_
        refine kl_vi S9 w7 v7 d7 (c_mark l _ hR7 hI7 _) hR7.1 rfl (cwV 1 hts gL_law_X5_mark rfl rfl rfl (by decide +kernel) ⟨Nat.le_of_ble_eq_true rfl, Nat.le_of_ble_eq_true rfl⟩) rfl hl.1 rfl (Nat.le_of_ble_eq_true rfl) dL_law_167 ⟨show 10 + 2 * q + 1 ≤ 600000 by omega, show 62000 + 2005 * q + 2 ≤ 7302250 by omega⟩ (fun r1 wx8 H8 lc8 p1 w8 v8 d8 => ?_)
        obtain ⟨e1, ad8, ar8, hR8⟩ := p1
        refine lv_aload_n hx hb dL_law_170 rfl (lv_at hl 1 rfl) ?_
        refine lv_aload_n hx hb dL_law_171 rfl (lv_at hl 3 rfl) ?_
        refine lv_iload_n hx hb dL_law_172 rfl (lv_at hl 0 rfl) ?_
        refine lv_iconst (v := 1) hx hb dL_law_173 (by decide) ?_
        refine lv_iadd hx hb dL_law_174 ?_
        refine va_sld hx hb hX hbl hbA w8.2.2.1 pin1 dL_law_175 ?_
        refine kl_vi S9 v8 w8 d8.symm (c_mmark l _ hM7 hI7 _) mx rfl (cwV 1 hts gL_law_X6_mark rfl rfl rfl (by decide +kernel) ⟨Nat.le_of_ble_eq_true rfl, Nat.le_of_ble_eq_true rfl⟩) rfl hl.1 rfl (Nat.le_of_ble_eq_true rfl) dL_law_176 ⟨show 10 + 2 * q + 1 + 0 ≤ 600000 by omega, show 62000 + 2005 * q + 2 + 0 ≤ 7302250 by omega⟩ (fun r2 wm9 H9 lc9 p2 v9 w9 d9 => ?_)
        obtain ⟨e2, hM9⟩ := p2
        refine lv_icmp_eq (tgt := 761) hx hb dL_law_179 (by decide) (fun _ => ?_) (fun cq => absurd (e1.trans e2.symm) cq)
        exact nxt _ _ _ _ _ _ _ _ _ (by omega) (by omega) (inv_thing hI7 (by decide) _) hR8 hM9 w9 v9 d9.symm
      · refine lv_tableIn (off := 151) (tgt := 184) hx hb dL_law_33 (by decide) (by decide) (by decide) (by decide) ?_
        refine lv_aload_n hx hb dL_law_184 rfl (lv_at hl 2 rfl) ?_
        refine lv_aload_n hx hb dL_law_185 rfl (lv_at hl 3 rfl) ?_
        refine lv_iload_n hx hb dL_law_186 rfl (lv_at hl 0 rfl) ?_
        refine lv_iconst (v := 1) hx hb dL_law_187 (by decide) ?_
        refine lv_iadd hx hb dL_law_188 ?_
        refine va_sld hx hb hX hbl hbA w7.2.2.1 pin1 dL_law_189 ?_
        refine kl_vi S9 w7 v7 d7 (c_seal l _ hR7 hI7 _) hR7.1 rfl (cwV 1 hts gL_law_X5_seal rfl rfl rfl (by decide +kernel) ⟨Nat.le_of_ble_eq_true rfl, Nat.le_of_ble_eq_true rfl⟩) rfl hl.1 rfl (Nat.le_of_ble_eq_true rfl) dL_law_190 ⟨show 10 + 2 * q + 1 ≤ 600000 by omega, show 62000 + 2005 * q + 2 ≤ 7302250 by omega⟩ (fun r1 wx8 H8 lc8 p1 w8 v8 d8 => ?_)
        obtain ⟨e1, ad8, ar8, hR8⟩ := p1
        refine lv_aload_n hx hb dL_law_193 rfl (lv_at hl 1 rfl) ?_
        refine lv_aload_n hx hb dL_law_194 rfl (lv_at hl 3 rfl) ?_
        refine lv_iload_n hx hb dL_law_195 rfl (lv_at hl 0 rfl) ?_
        refine lv_iconst (v := 1) hx hb dL_law_196 (by decide) ?_
        refine lv_iadd hx hb dL_law_197 ?_
        refine va_sld hx hb hX hbl hbA w8.2.2.1 pin1 dL_law_198 ?_
        refine kl_vi S9 v8 w8 d8.symm (c_mseal l _ hM7 hI7 _) mx rfl (cwV 1 hts gL_law_X6_seal rfl rfl rfl (by decide +kernel) ⟨Nat.le_of_ble_eq_true rfl, Nat.le_of_ble_eq_true rfl⟩) rfl hl.1 rfl (Nat.le_of_ble_eq_true rfl) dL_law_199 ⟨show 10 + 2 * q + 1 + 0 ≤ 600000 by omega, show 62000 + 2005 * q + 2 + 0 ≤ 7302250 by omega⟩ (fun r2 wm9 H9 lc9 p2 v9 w9 d9 => ?_)
        obtain ⟨e2, hM9⟩ := p2
        refine lv_icmp_eq (tgt := 761) hx hb dL_law_202 (by decide) (fun _ => ?_) (fun cq => absurd (e1.trans e2.symm) cq)
        exact nxt _ _ _ _ _ _ _ _ _ (by omega) (by omega) (inv_thing hI7 (by decide) _) hR8 hM9 w9 v9 d9.symm
      · refine lv_tableIn (off := 174) (tgt := 207) hx hb dL_law_33 (by decide) (by decide) (by decide) (by decide) ?_
        refine lv_aload_n hx hb dL_law_207 rfl (lv_at hl 2 rfl) ?_
        refine lv_aload_n hx hb dL_law_208 rfl (lv_at hl 3 rfl) ?_
        refine lv_iload_n hx hb dL_law_209 rfl (lv_at hl 0 rfl) ?_
        refine lv_iconst (v := 1) hx hb dL_law_210 (by decide) ?_
        refine lv_iadd hx hb dL_law_211 ?_
        refine va_sld hx hb hX hbl hbA w7.2.2.1 pin1 dL_law_212 ?_
        refine k_vi S9 w7 (c_kindOf l _ hR7 hI7 _) hR7.1 rfl (cwV 1 hts gL_law_X5_kindOf rfl rfl rfl (by decide +kernel) ⟨Nat.le_of_ble_eq_true rfl, Nat.le_of_ble_eq_true rfl⟩) rfl hl.1 rfl (Nat.le_of_ble_eq_true rfl) dL_law_213 ⟨show 10 + 2 * q ≤ 600000 by omega, show 62000 + 2005 * q ≤ 7302250 by omega⟩ (fun r1 e1 => ?_)
        refine lv_aload_n hx hb dL_law_216 rfl (lv_at hl 1 rfl) ?_
        refine lv_aload_n hx hb dL_law_217 rfl (lv_at hl 3 rfl) ?_
        refine lv_iload_n hx hb dL_law_218 rfl (lv_at hl 0 rfl) ?_
        refine lv_iconst (v := 1) hx hb dL_law_219 (by decide) ?_
        refine lv_iadd hx hb dL_law_220 ?_
        refine va_sld hx hb hX hbl hbA w7.2.2.1 pin1 dL_law_221 ?_
        refine k_vi S9 v7 (c_mkindOf l _ hM7 hI7 _) mx rfl (cwV 1 hts gL_law_X6_kindOf rfl rfl rfl (by decide +kernel) ⟨Nat.le_of_ble_eq_true rfl, Nat.le_of_ble_eq_true rfl⟩) rfl hl.1 rfl (Nat.le_of_ble_eq_true rfl) dL_law_222 ⟨show 10 + 2 * q ≤ 600000 by omega, show 62000 + 2005 * q ≤ 7302250 by omega⟩ (fun r2 e2 => ?_)
        refine lv_icmp_eq (tgt := 761) hx hb dL_law_225 (by decide) (fun _ => ?_) (fun cq => absurd (e1.trans e2.symm) cq)
        exact nxt _ _ _ _ _ _ _ _ _ (by omega) (by omega) hI7 hR7 hM7 w7 v7 d7
      · refine lv_tableIn (off := 197) (tgt := 230) hx hb dL_law_33 (by decide) (by decide) (by decide) (by decide) ?_
        refine lv_aload_n hx hb dL_law_230 rfl (lv_at hl 2 rfl) ?_
        refine lv_aload_n hx hb dL_law_231 rfl (lv_at hl 3 rfl) ?_
        refine lv_iload_n hx hb dL_law_232 rfl (lv_at hl 0 rfl) ?_
        refine lv_iconst (v := 1) hx hb dL_law_233 (by decide) ?_
        refine lv_iadd hx hb dL_law_234 ?_
        refine va_sld hx hb hX hbl hbA w7.2.2.1 pin1 dL_law_235 ?_
        refine k_vi S9 w7 (c_length l _ hR7 hI7 _) hR7.1 rfl (cwV 1 hts gL_law_X5_length rfl rfl rfl (by decide +kernel) ⟨Nat.le_of_ble_eq_true rfl, Nat.le_of_ble_eq_true rfl⟩) rfl hl.1 rfl (Nat.le_of_ble_eq_true rfl) dL_law_236 ⟨show 10 + 2 * q ≤ 600000 by omega, show 62000 + 2005 * q ≤ 7302250 by omega⟩ (fun r1 e1 => ?_)
        refine lv_aload_n hx hb dL_law_239 rfl (lv_at hl 1 rfl) ?_
        refine lv_aload_n hx hb dL_law_240 rfl (lv_at hl 3 rfl) ?_
        refine lv_iload_n hx hb dL_law_241 rfl (lv_at hl 0 rfl) ?_
        refine lv_iconst (v := 1) hx hb dL_law_242 (by decide) ?_
        refine lv_iadd hx hb dL_law_243 ?_
        refine va_sld hx hb hX hbl hbA w7.2.2.1 pin1 dL_law_244 ?_
        refine k_vi S9 v7 (c_mlength l _ hM7 hI7 _) mx rfl (cwV 1 hts gL_law_X6_length rfl rfl rfl (by decide +kernel) ⟨Nat.le_of_ble_eq_true rfl, Nat.le_of_ble_eq_true rfl⟩) rfl hl.1 rfl (Nat.le_of_ble_eq_true rfl) dL_law_245 ⟨show 10 + 2 * q ≤ 600000 by omega, show 62000 + 2005 * q ≤ 7302250 by omega⟩ (fun r2 e2 => ?_)
        refine lv_icmp_eq (tgt := 761) hx hb dL_law_248 (by decide) (fun _ => ?_) (fun cq => absurd (e1.trans e2.symm) cq)
        exact nxt _ _ _ _ _ _ _ _ _ (by omega) (by omega) hI7 hR7 hM7 w7 v7 d7
      · refine lv_tableIn (off := 220) (tgt := 253) hx hb dL_law_33 (by decide) (by decide) (by decide) (by decide) ?_
        refine lv_aload_n hx hb dL_law_253 rfl (lv_at hl 2 rfl) ?_
        refine lv_aload_n hx hb dL_law_254 rfl (lv_at hl 3 rfl) ?_
        refine lv_iload_n hx hb dL_law_255 rfl (lv_at hl 0 rfl) ?_
        refine lv_iconst (v := 1) hx hb dL_law_256 (by decide) ?_
        refine lv_iadd hx hb dL_law_257 ?_
        refine va_sld hx hb hX hbl hbA w7.2.2.1 pin1 dL_law_258 ?_
        refine lv_aload_n hx hb dL_law_259 rfl (lv_at hl 3 rfl) ?_
        refine lv_iload_n hx hb dL_law_260 rfl (lv_at hl 0 rfl) ?_
        refine lv_iconst (v := 2) hx hb dL_law_261 (by decide) ?_
        refine lv_iadd hx hb dL_law_262 ?_
        refine va_sld hx hb hX hbl hbA w7.2.2.1 pin2 dL_law_263 ?_
        refine lv_aload_n hx hb dL_law_264 rfl (lv_at hl 3 rfl) ?_
        refine lv_iload_n hx hb dL_law_265 rfl (lv_at hl 0 rfl) ?_
        refine lv_iconst (v := 3) hx hb dL_law_266 (by decide) ?_
        refine lv_iadd hx hb dL_law_267 ?_
        refine va_sld hx hb hX hbl hbA w7.2.2.1 pin3 dL_law_268 ?_
        refine lv_i2l hx hb dL_law_269 rfl ?_
        refine lv_bipush (v := 32) hx hb dL_law_270 (by decide) ?_
        refine lv_lshl hx hb dL_law_272 rfl ?_
        refine lv_aload_n hx hb dL_law_273 rfl (lv_at hl 3 rfl) ?_
        refine lv_iload_n hx hb dL_law_274 rfl (lv_at hl 0 rfl) ?_
        refine lv_iconst (v := 4) hx hb dL_law_275 (by decide) ?_
        refine lv_iadd hx hb dL_law_276 ?_
        refine va_sld hx hb hX hbl hbA w7.2.2.1 pin4 dL_law_277 ?_
        refine lv_i2l hx hb dL_law_278 rfl ?_
        refine lv_ldc2 (v := 4294967295) hx hb hown (hts (.constantLong RL 35 (4294967295)) (by decide +kernel)) dL_law_279 ?_
        refine lv_land hx hb dL_law_282 ?_
        refine lv_lor hx hb dL_law_283 ?_
        refine kl_vi S9 w7 v7 d7 (c_set l _ hR7 hI7 _ _ _) hR7.1 rfl (cwV 3 hts gL_law_X5_set rfl rfl rfl (by decide +kernel) ⟨Nat.le_of_ble_eq_true rfl, Nat.le_of_ble_eq_true rfl⟩) rfl hl.1 rfl (Nat.le_of_ble_eq_true rfl) dL_law_284 ⟨show 10 + 2 * q + 0 ≤ 600000 by omega, show 62000 + 2005 * q + 0 ≤ 7302250 by omega⟩ (fun r1 wx8 H8 lc8 p1 w8 v8 d8 => ?_)
        obtain ⟨e1, ad8, ar8, hR8⟩ := p1
        refine lv_aload_n hx hb dL_law_287 rfl (lv_at hl 1 rfl) ?_
        refine lv_aload_n hx hb dL_law_288 rfl (lv_at hl 3 rfl) ?_
        refine lv_iload_n hx hb dL_law_289 rfl (lv_at hl 0 rfl) ?_
        refine lv_iconst (v := 1) hx hb dL_law_290 (by decide) ?_
        refine lv_iadd hx hb dL_law_291 ?_
        refine va_sld hx hb hX hbl hbA w8.2.2.1 pin1 dL_law_292 ?_
        refine lv_aload_n hx hb dL_law_293 rfl (lv_at hl 3 rfl) ?_
        refine lv_iload_n hx hb dL_law_294 rfl (lv_at hl 0 rfl) ?_
        refine lv_iconst (v := 2) hx hb dL_law_295 (by decide) ?_
        refine lv_iadd hx hb dL_law_296 ?_
        refine va_sld hx hb hX hbl hbA w8.2.2.1 pin2 dL_law_297 ?_
        refine lv_aload_n hx hb dL_law_298 rfl (lv_at hl 3 rfl) ?_
        refine lv_iload_n hx hb dL_law_299 rfl (lv_at hl 0 rfl) ?_
        refine lv_iconst (v := 3) hx hb dL_law_300 (by decide) ?_
        refine lv_iadd hx hb dL_law_301 ?_
        refine va_sld hx hb hX hbl hbA w8.2.2.1 pin3 dL_law_302 ?_
        refine lv_i2l hx hb dL_law_303 rfl ?_
        refine lv_bipush (v := 32) hx hb dL_law_304 (by decide) ?_
        refine lv_lshl hx hb dL_law_306 rfl ?_
        refine lv_aload_n hx hb dL_law_307 rfl (lv_at hl 3 rfl) ?_
        refine lv_iload_n hx hb dL_law_308 rfl (lv_at hl 0 rfl) ?_
        refine lv_iconst (v := 4) hx hb dL_law_309 (by decide) ?_
        refine lv_iadd hx hb dL_law_310 ?_
        refine va_sld hx hb hX hbl hbA w8.2.2.1 pin4 dL_law_311 ?_
        refine lv_i2l hx hb dL_law_312 rfl ?_
        refine lv_ldc2 (v := 4294967295) hx hb hown (hts (.constantLong RL 35 (4294967295)) (by decide +kernel)) dL_law_313 ?_
        refine lv_land hx hb dL_law_316 ?_
        refine lv_lor hx hb dL_law_317 ?_
        refine kl_vi S9 v8 w8 d8.symm (c_mset l _ hM7 hI7 _ _ _) mx rfl (cwV 3 hts gL_law_X6_set rfl rfl rfl (by decide +kernel) ⟨Nat.le_of_ble_eq_true rfl, Nat.le_of_ble_eq_true rfl⟩) rfl hl.1 rfl (Nat.le_of_ble_eq_true rfl) dL_law_318 ⟨show 10 + 2 * q + 0 + 0 ≤ 600000 by omega, show 62000 + 2005 * q + 0 + 0 ≤ 7302250 by omega⟩ (fun r2 wm9 H9 lc9 p2 v9 w9 d9 => ?_)
        obtain ⟨e2, hM9⟩ := p2
        refine lv_icmp_eq (tgt := 761) hx hb dL_law_321 (by decide) (fun _ => ?_) (fun cq => absurd (e1.trans e2.symm) cq)
        exact nxt _ _ _ _ _ _ _ _ _ (by omega) (by omega) (inv_set hI7 _ _ _) hR8 hM9 w9 v9 d9.symm
      · refine lv_tableIn (off := 293) (tgt := 326) hx hb dL_law_33 (by decide) (by decide) (by decide) (by decide) ?_
        refine lv_aload_n hx hb dL_law_326 rfl (lv_at hl 2 rfl) ?_
        refine lv_aload_n hx hb dL_law_327 rfl (lv_at hl 3 rfl) ?_
        refine lv_iload_n hx hb dL_law_328 rfl (lv_at hl 0 rfl) ?_
        refine lv_iconst (v := 1) hx hb dL_law_329 (by decide) ?_
        refine lv_iadd hx hb dL_law_330 ?_
        refine va_sld hx hb hX hbl hbA w7.2.2.1 pin1 dL_law_331 ?_
        refine lv_aload_n hx hb dL_law_332 rfl (lv_at hl 3 rfl) ?_
        refine lv_iload_n hx hb dL_law_333 rfl (lv_at hl 0 rfl) ?_
        refine lv_iconst (v := 2) hx hb dL_law_334 (by decide) ?_
        refine lv_iadd hx hb dL_law_335 ?_
        refine va_sld hx hb hX hbl hbA w7.2.2.1 pin2 dL_law_336 ?_
        refine lv_aload_n hx hb dL_law_337 rfl (lv_at hl 3 rfl) ?_
        refine lv_iload_n hx hb dL_law_338 rfl (lv_at hl 0 rfl) ?_
        refine lv_iconst (v := 3) hx hb dL_law_339 (by decide) ?_
        refine lv_iadd hx hb dL_law_340 ?_
        refine va_sld hx hb hX hbl hbA w7.2.2.1 pin3 dL_law_341 ?_
        refine kl_vi S9 w7 v7 d7 (c_setThing l _ hR7 hI7 _ _ _) hR7.1 rfl (cwV 3 hts gL_law_X5_setThing rfl rfl rfl (by decide +kernel) ⟨Nat.le_of_ble_eq_true rfl, Nat.le_of_ble_eq_true rfl⟩) rfl hl.1 rfl (Nat.le_of_ble_eq_true rfl) dL_law_342 ⟨show 10 + 2 * q + 0 ≤ 600000 by omega, show 62000 + 2005 * q + 0 ≤ 7302250 by omega⟩ (fun r1 wx8 H8 lc8 p1 w8 v8 d8 => ?_)
        obtain ⟨e1, ad8, ar8, hR8⟩ := p1
        refine lv_aload_n hx hb dL_law_345 rfl (lv_at hl 1 rfl) ?_
        refine lv_aload_n hx hb dL_law_346 rfl (lv_at hl 3 rfl) ?_
        refine lv_iload_n hx hb dL_law_347 rfl (lv_at hl 0 rfl) ?_
        refine lv_iconst (v := 1) hx hb dL_law_348 (by decide) ?_
        refine lv_iadd hx hb dL_law_349 ?_
        refine va_sld hx hb hX hbl hbA w8.2.2.1 pin1 dL_law_350 ?_
        refine lv_aload_n hx hb dL_law_351 rfl (lv_at hl 3 rfl) ?_
        refine lv_iload_n hx hb dL_law_352 rfl (lv_at hl 0 rfl) ?_
        refine lv_iconst (v := 2) hx hb dL_law_353 (by decide) ?_
        refine lv_iadd hx hb dL_law_354 ?_
        refine va_sld hx hb hX hbl hbA w8.2.2.1 pin2 dL_law_355 ?_
        refine lv_aload_n hx hb dL_law_356 rfl (lv_at hl 3 rfl) ?_
        refine lv_iload_n hx hb dL_law_357 rfl (lv_at hl 0 rfl) ?_
        refine lv_iconst (v := 3) hx hb dL_law_358 (by decide) ?_
        refine lv_iadd hx hb dL_law_359 ?_
        refine va_sld hx hb hX hbl hbA w8.2.2.1 pin3 dL_law_360 ?_
        refine kl_vi S9 v8 w8 d8.symm (c_msetThing l _ hM7 hI7 _ _ _) mx rfl (cwV 3 hts gL_law_X6_setThing rfl rfl rfl (by decide +kernel) ⟨Nat.le_of_ble_eq_true rfl, Nat.le_of_ble_eq_true rfl⟩) rfl hl.1 rfl (Nat.le_of_ble_eq_true rfl) dL_law_361 ⟨show 10 + 2 * q + 0 + 0 ≤ 600000 by omega, show 62000 + 2005 * q + 0 + 0 ≤ 7302250 by omega⟩ (fun r2 wm9 H9 lc9 p2 v9 w9 d9 => ?_)
        obtain ⟨e2, hM9⟩ := p2
        refine lv_icmp_eq (tgt := 761) hx hb dL_law_364 (by decide) (fun _ => ?_) (fun cq => absurd (e1.trans e2.symm) cq)
        exact nxt _ _ _ _ _ _ _ _ _ (by omega) (by omega) (inv_setThing hI7 _ _ _) hR8 hM9 w9 v9 d9.symm
      · refine lv_tableIn (off := 336) (tgt := 369) hx hb dL_law_33 (by decide) (by decide) (by decide) (by decide) ?_
        refine lv_aload_n hx hb dL_law_369 rfl (lv_at hl 2 rfl) ?_
        refine lv_aload_n hx hb dL_law_370 rfl (lv_at hl 3 rfl) ?_
        refine lv_iload_n hx hb dL_law_371 rfl (lv_at hl 0 rfl) ?_
        refine lv_iconst (v := 1) hx hb dL_law_372 (by decide) ?_
        refine lv_iadd hx hb dL_law_373 ?_
        refine va_sld hx hb hX hbl hbA w7.2.2.1 pin1 dL_law_374 ?_
        refine lv_aload_n hx hb dL_law_375 rfl (lv_at hl 3 rfl) ?_
        refine lv_iload_n hx hb dL_law_376 rfl (lv_at hl 0 rfl) ?_
        refine lv_iconst (v := 2) hx hb dL_law_377 (by decide) ?_
        refine lv_iadd hx hb dL_law_378 ?_
        refine va_sld hx hb hX hbl hbA w7.2.2.1 pin2 dL_law_379 ?_
        refine kl_vl S9 w7 v7 d7 (c_get l _ hR7 hI7 _ _) hR7.1 rfl (cwV 2 hts gL_law_X5_get rfl rfl rfl (by decide +kernel) ⟨Nat.le_of_ble_eq_true rfl, Nat.le_of_ble_eq_true rfl⟩) rfl hl.1 rfl (Nat.le_of_ble_eq_true rfl) dL_law_380 ⟨show 10 + 2 * q + 0 ≤ 600000 by omega, show 62000 + 2005 * q + 0 ≤ 7302250 by omega⟩ (fun r1 wx8 H8 lc8 p1 w8 v8 d8 => ?_)
        obtain ⟨e1, ad8, ar8, hR8⟩ := p1
        refine lv_aload_n hx hb dL_law_383 rfl (lv_at hl 1 rfl) ?_
        refine lv_aload_n hx hb dL_law_384 rfl (lv_at hl 3 rfl) ?_
        refine lv_iload_n hx hb dL_law_385 rfl (lv_at hl 0 rfl) ?_
        refine lv_iconst (v := 1) hx hb dL_law_386 (by decide) ?_
        refine lv_iadd hx hb dL_law_387 ?_
        refine va_sld hx hb hX hbl hbA w8.2.2.1 pin1 dL_law_388 ?_
        refine lv_aload_n hx hb dL_law_389 rfl (lv_at hl 3 rfl) ?_
        refine lv_iload_n hx hb dL_law_390 rfl (lv_at hl 0 rfl) ?_
        refine lv_iconst (v := 2) hx hb dL_law_391 (by decide) ?_
        refine lv_iadd hx hb dL_law_392 ?_
        refine va_sld hx hb hX hbl hbA w8.2.2.1 pin2 dL_law_393 ?_
        refine kl_vl S9 v8 w8 d8.symm (c_mget l _ hM7 hI7 _ _) mx rfl (cwV 2 hts gL_law_X6_get rfl rfl rfl (by decide +kernel) ⟨Nat.le_of_ble_eq_true rfl, Nat.le_of_ble_eq_true rfl⟩) rfl hl.1 rfl (Nat.le_of_ble_eq_true rfl) dL_law_394 ⟨show 10 + 2 * q + 0 + 0 ≤ 600000 by omega, show 62000 + 2005 * q + 0 + 0 ≤ 7302250 by omega⟩ (fun r2 wm9 H9 lc9 p2 v9 w9 d9 => ?_)
        obtain ⟨e2, hM9⟩ := p2
        refine W.lcmp hx hb dL_law_397 ?_
        refine lv_if_eq (tgt := 761) hx hb dL_law_398 (by decide) (fun _ => ?_) (fun cq => absurd ((lg_cmp_eq _ _).mpr (e1.trans e2.symm)) cq)
        exact nxt _ _ _ _ _ _ _ _ _ (by omega) (by omega) (inv_get hI7 _ _) hR8 hM9 w9 v9 d9.symm
      · refine lv_tableIn (off := 370) (tgt := 403) hx hb dL_law_33 (by decide) (by decide) (by decide) (by decide) ?_
        refine lv_aload_n hx hb dL_law_403 rfl (lv_at hl 2 rfl) ?_
        refine lv_aload_n hx hb dL_law_404 rfl (lv_at hl 3 rfl) ?_
        refine lv_iload_n hx hb dL_law_405 rfl (lv_at hl 0 rfl) ?_
        refine lv_iconst (v := 1) hx hb dL_law_406 (by decide) ?_
        refine lv_iadd hx hb dL_law_407 ?_
        refine va_sld hx hb hX hbl hbA w7.2.2.1 pin1 dL_law_408 ?_
        refine lv_aload_n hx hb dL_law_409 rfl (lv_at hl 3 rfl) ?_
        refine lv_iload_n hx hb dL_law_410 rfl (lv_at hl 0 rfl) ?_
        refine lv_iconst (v := 2) hx hb dL_law_411 (by decide) ?_
        refine lv_iadd hx hb dL_law_412 ?_
        refine va_sld hx hb hX hbl hbA w7.2.2.1 pin2 dL_law_413 ?_
        refine lv_aload_n hx hb dL_law_414 rfl (lv_at hl 3 rfl) ?_
        refine lv_iload_n hx hb dL_law_415 rfl (lv_at hl 0 rfl) ?_
        refine lv_iconst (v := 3) hx hb dL_law_416 (by decide) ?_
        refine lv_iadd hx hb dL_law_417 ?_
        refine va_sld hx hb hX hbl hbA w7.2.2.1 pin3 dL_law_418 ?_
        refine kl_vl S9 w7 v7 d7 (c_deep l _ hR7 hI7 _ _ _) hR7.1 rfl (cwV 3 hts gL_law_X5_deep rfl rfl rfl (by decide +kernel) ⟨Nat.le_of_ble_eq_true rfl, Nat.le_of_ble_eq_true rfl⟩) rfl hl.1 rfl (Nat.le_of_ble_eq_true rfl) dL_law_419 ⟨show 10 + 2 * q + 0 ≤ 600000 by omega, show 62000 + 2005 * q + 0 ≤ 7302250 by omega⟩ (fun r1 wx8 H8 lc8 p1 w8 v8 d8 => ?_)
        obtain ⟨e1, ad8, ar8, hR8⟩ := p1
        refine lv_aload_n hx hb dL_law_422 rfl (lv_at hl 1 rfl) ?_
        refine lv_aload_n hx hb dL_law_423 rfl (lv_at hl 3 rfl) ?_
        refine lv_iload_n hx hb dL_law_424 rfl (lv_at hl 0 rfl) ?_
        refine lv_iconst (v := 1) hx hb dL_law_425 (by decide) ?_
        refine lv_iadd hx hb dL_law_426 ?_
        refine va_sld hx hb hX hbl hbA w8.2.2.1 pin1 dL_law_427 ?_
        refine lv_aload_n hx hb dL_law_428 rfl (lv_at hl 3 rfl) ?_
        refine lv_iload_n hx hb dL_law_429 rfl (lv_at hl 0 rfl) ?_
        refine lv_iconst (v := 2) hx hb dL_law_430 (by decide) ?_
        refine lv_iadd hx hb dL_law_431 ?_
        refine va_sld hx hb hX hbl hbA w8.2.2.1 pin2 dL_law_432 ?_
        refine lv_aload_n hx hb dL_law_433 rfl (lv_at hl 3 rfl) ?_
        refine lv_iload_n hx hb dL_law_434 rfl (lv_at hl 0 rfl) ?_
        refine lv_iconst (v := 3) hx hb dL_law_435 (by decide) ?_
        refine lv_iadd hx hb dL_law_436 ?_
        refine va_sld hx hb hX hbl hbA w8.2.2.1 pin3 dL_law_437 ?_
        refine kl_vl S9 v8 w8 d8.symm (c_mdeep l _ hM7 hI7 _ _ _) mx rfl (cwV 3 hts gL_law_X6_deep rfl rfl rfl (by decide +kernel) ⟨Nat.le_of_ble_eq_true rfl, Nat.le_of_ble_eq_true rfl⟩) rfl hl.1 rfl (Nat.le_of_ble_eq_true rfl) dL_law_438 ⟨show 10 + 2 * q + 0 + 0 ≤ 600000 by omega, show 62000 + 2005 * q + 0 + 0 ≤ 7302250 by omega⟩ (fun r2 wm9 H9 lc9 p2 v9 w9 d9 => ?_)
        obtain ⟨e2, hM9⟩ := p2
        refine W.lcmp hx hb dL_law_441 ?_
        refine lv_if_eq (tgt := 761) hx hb dL_law_442 (by decide) (fun _ => ?_) (fun cq => absurd ((lg_cmp_eq _ _).mpr (e1.trans e2.symm)) cq)
        exact nxt _ _ _ _ _ _ _ _ _ (by omega) (by omega) (inv_deep hI7 _ _ _) hR8 hM9 w9 v9 d9.symm
      · refine lv_tableIn (off := 414) (tgt := 447) hx hb dL_law_33 (by decide) (by decide) (by decide) (by decide) ?_
        refine lv_aload_n hx hb dL_law_447 rfl (lv_at hl 2 rfl) ?_
        refine k_vi S9 w7 (c_why l _ hR7 ) hR7.1 rfl (cwV 0 hts gL_law_X5_why rfl rfl rfl (by decide +kernel) ⟨Nat.le_of_ble_eq_true rfl, Nat.le_of_ble_eq_true rfl⟩) rfl hl.1 rfl (Nat.le_of_ble_eq_true rfl) dL_law_448 ⟨show 10 + 2 * q ≤ 600000 by omega, show 62000 + 2005 * q ≤ 7302250 by omega⟩ (fun r1 e1 => ?_)
        refine lv_aload_n hx hb dL_law_451 rfl (lv_at hl 1 rfl) ?_
        refine k_vi S9 v7 (c_mwhy l _ hM7 ) mx rfl (cwV 0 hts gL_law_X6_why rfl rfl rfl (by decide +kernel) ⟨Nat.le_of_ble_eq_true rfl, Nat.le_of_ble_eq_true rfl⟩) rfl hl.1 rfl (Nat.le_of_ble_eq_true rfl) dL_law_452 ⟨show 10 + 2 * q ≤ 600000 by omega, show 62000 + 2005 * q ≤ 7302250 by omega⟩ (fun r2 e2 => ?_)
        refine lv_icmp_eq (tgt := 761) hx hb dL_law_455 (by decide) (fun _ => ?_) (fun cq => absurd (e1.trans e2.symm) cq)
        exact nxt _ _ _ _ _ _ _ _ _ (by omega) (by omega) hI7 hR7 hM7 w7 v7 d7
      · refine lv_tableIn (off := 427) (tgt := 460) hx hb dL_law_33 (by decide) (by decide) (by decide) (by decide) ?_
        refine lv_aload_n hx hb dL_law_460 rfl (lv_at hl 2 rfl) ?_
        refine lv_aload_n hx hb dL_law_461 rfl (lv_at hl 3 rfl) ?_
        refine lv_iload_n hx hb dL_law_462 rfl (lv_at hl 0 rfl) ?_
        refine lv_iconst (v := 1) hx hb dL_law_463 (by decide) ?_
        refine lv_iadd hx hb dL_law_464 ?_
        refine va_sld hx hb hX hbl hbA w7.2.2.1 pin1 dL_law_465 ?_
        refine lv_aload_n hx hb dL_law_466 rfl (lv_at hl 3 rfl) ?_
        refine lv_iload_n hx hb dL_law_467 rfl (lv_at hl 0 rfl) ?_
        refine lv_iconst (v := 2) hx hb dL_law_468 (by decide) ?_
        refine lv_iadd hx hb dL_law_469 ?_
        refine va_sld hx hb hX hbl hbA w7.2.2.1 pin2 dL_law_470 ?_
        refine kl_vi S9 w7 v7 d7 (c_lift l _ hR7 hI7 _ _) hR7.1 rfl (cwV 2 hts gL_law_X5_lift rfl rfl rfl (by decide +kernel) ⟨Nat.le_of_ble_eq_true rfl, Nat.le_of_ble_eq_true rfl⟩) rfl hl.1 rfl (Nat.le_of_ble_eq_true rfl) dL_law_471 ⟨show 10 + 2 * q + 0 ≤ 600000 by omega, show 62000 + 2005 * q + 0 ≤ 7302250 by omega⟩ (fun r1 wx8 H8 lc8 p1 w8 v8 d8 => ?_)
        obtain ⟨e1, ad8, ar8, hR8⟩ := p1
        refine lv_aload_n hx hb dL_law_474 rfl (lv_at hl 1 rfl) ?_
        refine lv_aload_n hx hb dL_law_475 rfl (lv_at hl 3 rfl) ?_
        refine lv_iload_n hx hb dL_law_476 rfl (lv_at hl 0 rfl) ?_
        refine lv_iconst (v := 1) hx hb dL_law_477 (by decide) ?_
        refine lv_iadd hx hb dL_law_478 ?_
        refine va_sld hx hb hX hbl hbA w8.2.2.1 pin1 dL_law_479 ?_
        refine lv_aload_n hx hb dL_law_480 rfl (lv_at hl 3 rfl) ?_
        refine lv_iload_n hx hb dL_law_481 rfl (lv_at hl 0 rfl) ?_
        refine lv_iconst (v := 2) hx hb dL_law_482 (by decide) ?_
        refine lv_iadd hx hb dL_law_483 ?_
        refine va_sld hx hb hX hbl hbA w8.2.2.1 pin2 dL_law_484 ?_
        refine kl_vi S9 v8 w8 d8.symm (c_mlift l _ hM7 hI7 _ _) mx rfl (cwV 2 hts gL_law_X6_lift rfl rfl rfl (by decide +kernel) ⟨Nat.le_of_ble_eq_true rfl, Nat.le_of_ble_eq_true rfl⟩) rfl hl.1 rfl (Nat.le_of_ble_eq_true rfl) dL_law_485 ⟨show 10 + 2 * q + 0 + 0 ≤ 600000 by omega, show 62000 + 2005 * q + 0 + 0 ≤ 7302250 by omega⟩ (fun r2 wm9 H9 lc9 p2 v9 w9 d9 => ?_)
        obtain ⟨e2, hM9⟩ := p2
        refine lv_icmp_eq (tgt := 761) hx hb dL_law_488 (by decide) (fun _ => ?_) (fun cq => absurd (e1.trans e2.symm) cq)
        exact nxt _ _ _ _ _ _ _ _ _ (by omega) (by omega) (inv_lift hI7 _ _) hR8 hM9 w9 v9 d9.symm
      · refine lv_tableIn (off := 460) (tgt := 493) hx hb dL_law_33 (by decide) (by decide) (by decide) (by decide) ?_
        refine lv_aload_n hx hb dL_law_493 rfl (lv_at hl 2 rfl) ?_
        refine lv_aload_n hx hb dL_law_494 rfl (lv_at hl 3 rfl) ?_
        refine lv_iload_n hx hb dL_law_495 rfl (lv_at hl 0 rfl) ?_
        refine lv_iconst (v := 1) hx hb dL_law_496 (by decide) ?_
        refine lv_iadd hx hb dL_law_497 ?_
        refine va_sld hx hb hX hbl hbA w7.2.2.1 pin1 dL_law_498 ?_
        refine lv_aload_n hx hb dL_law_499 rfl (lv_at hl 3 rfl) ?_
        refine lv_iload_n hx hb dL_law_500 rfl (lv_at hl 0 rfl) ?_
        refine lv_iconst (v := 2) hx hb dL_law_501 (by decide) ?_
        refine lv_iadd hx hb dL_law_502 ?_
        refine va_sld hx hb hX hbl hbA w7.2.2.1 pin2 dL_law_503 ?_
        refine lv_aload_n hx hb dL_law_504 rfl (lv_at hl 3 rfl) ?_
        refine lv_iload_n hx hb dL_law_505 rfl (lv_at hl 0 rfl) ?_
        refine lv_iconst (v := 3) hx hb dL_law_506 (by decide) ?_
        refine lv_iadd hx hb dL_law_507 ?_
        refine va_sld hx hb hX hbl hbA w7.2.2.1 pin3 dL_law_508 ?_
        refine lv_aload_n hx hb dL_law_509 rfl (lv_at hl 3 rfl) ?_
        refine lv_iload_n hx hb dL_law_510 rfl (lv_at hl 0 rfl) ?_
        refine lv_iconst (v := 4) hx hb dL_law_511 (by decide) ?_
        refine lv_iadd hx hb dL_law_512 ?_
        refine va_sld hx hb hX hbl hbA w7.2.2.1 pin4 dL_law_513 ?_
        refine lv_aload_n hx hb dL_law_514 rfl (lv_at hl 3 rfl) ?_
        refine lv_iload_n hx hb dL_law_515 rfl (lv_at hl 0 rfl) ?_
        refine lv_iconst (v := 5) hx hb dL_law_516 (by decide) ?_
        refine lv_iadd hx hb dL_law_517 ?_
        refine va_sld hx hb hX hbl hbA w7.2.2.1 pin5 dL_law_518 ?_
        refine kl_vi S9 w7 v7 d7 (c_move l _ hR7 hI7 _ _ _ _ _) hR7.1 rfl (cwV 5 hts gL_law_X5_move rfl rfl rfl (by decide +kernel) ⟨Nat.le_of_ble_eq_true rfl, Nat.le_of_ble_eq_true rfl⟩) rfl hl.1 rfl (Nat.le_of_ble_eq_true rfl) dL_law_519 ⟨show 10 + 2 * q + 0 ≤ 600000 by omega, show 62000 + 2005 * q + 0 ≤ 7302250 by omega⟩ (fun r1 wx8 H8 lc8 p1 w8 v8 d8 => ?_)
        obtain ⟨e1, ad8, ar8, hR8⟩ := p1
        refine lv_aload_n hx hb dL_law_522 rfl (lv_at hl 1 rfl) ?_
        refine lv_aload_n hx hb dL_law_523 rfl (lv_at hl 3 rfl) ?_
        refine lv_iload_n hx hb dL_law_524 rfl (lv_at hl 0 rfl) ?_
        refine lv_iconst (v := 1) hx hb dL_law_525 (by decide) ?_
        refine lv_iadd hx hb dL_law_526 ?_
        refine va_sld hx hb hX hbl hbA w8.2.2.1 pin1 dL_law_527 ?_
        refine lv_aload_n hx hb dL_law_528 rfl (lv_at hl 3 rfl) ?_
        refine lv_iload_n hx hb dL_law_529 rfl (lv_at hl 0 rfl) ?_
        refine lv_iconst (v := 2) hx hb dL_law_530 (by decide) ?_
        refine lv_iadd hx hb dL_law_531 ?_
        refine va_sld hx hb hX hbl hbA w8.2.2.1 pin2 dL_law_532 ?_
        refine lv_aload_n hx hb dL_law_533 rfl (lv_at hl 3 rfl) ?_
        refine lv_iload_n hx hb dL_law_534 rfl (lv_at hl 0 rfl) ?_
        refine lv_iconst (v := 3) hx hb dL_law_535 (by decide) ?_
        refine lv_iadd hx hb dL_law_536 ?_
        refine va_sld hx hb hX hbl hbA w8.2.2.1 pin3 dL_law_537 ?_
        refine lv_aload_n hx hb dL_law_538 rfl (lv_at hl 3 rfl) ?_
        refine lv_iload_n hx hb dL_law_539 rfl (lv_at hl 0 rfl) ?_
        refine lv_iconst (v := 4) hx hb dL_law_540 (by decide) ?_
        refine lv_iadd hx hb dL_law_541 ?_
        refine va_sld hx hb hX hbl hbA w8.2.2.1 pin4 dL_law_542 ?_
        refine lv_aload_n hx hb dL_law_543 rfl (lv_at hl 3 rfl) ?_
        refine lv_iload_n hx hb dL_law_544 rfl (lv_at hl 0 rfl) ?_
        refine lv_iconst (v := 5) hx hb dL_law_545 (by decide) ?_
        refine lv_iadd hx hb dL_law_546 ?_
        refine va_sld hx hb hX hbl hbA w8.2.2.1 pin5 dL_law_547 ?_
        refine kl_vi S9 v8 w8 d8.symm (c_mmove l _ hM7 hI7 _ _ _ _ _) mx rfl (cwV 5 hts gL_law_X6_move rfl rfl rfl (by decide +kernel) ⟨Nat.le_of_ble_eq_true rfl, Nat.le_of_ble_eq_true rfl⟩) rfl hl.1 rfl (Nat.le_of_ble_eq_true rfl) dL_law_548 ⟨show 10 + 2 * q + 0 + 0 ≤ 600000 by omega, show 62000 + 2005 * q + 0 + 0 ≤ 7302250 by omega⟩ (fun r2 wm9 H9 lc9 p2 v9 w9 d9 => ?_)
        obtain ⟨e2, hM9⟩ := p2
        refine lv_icmp_eq (tgt := 761) hx hb dL_law_551 (by decide) (fun _ => ?_) (fun cq => absurd (e1.trans e2.symm) cq)
        exact nxt _ _ _ _ _ _ _ _ _ (by omega) (by omega) (inv_move hI7 _ _ _ _ _) hR8 hM9 w9 v9 d9.symm
      · refine lv_tableIn (off := 523) (tgt := 556) hx hb dL_law_33 (by decide) (by decide) (by decide) (by decide) ?_
        refine lv_aload_n hx hb dL_law_556 rfl (lv_at hl 2 rfl) ?_
        refine k_vi S9 w7 (c_moved l _ hR7 ) hR7.1 rfl (cwV 0 hts gL_law_X5_moved rfl rfl rfl (by decide +kernel) ⟨Nat.le_of_ble_eq_true rfl, Nat.le_of_ble_eq_true rfl⟩) rfl hl.1 rfl (Nat.le_of_ble_eq_true rfl) dL_law_557 ⟨show 10 + 2 * q ≤ 600000 by omega, show 62000 + 2005 * q ≤ 7302250 by omega⟩ (fun r1 e1 => ?_)
        refine lv_aload_n hx hb dL_law_560 rfl (lv_at hl 1 rfl) ?_
        refine k_vi S9 v7 (c_mmoved l _ hM7 ) mx rfl (cwV 0 hts gL_law_X6_moved rfl rfl rfl (by decide +kernel) ⟨Nat.le_of_ble_eq_true rfl, Nat.le_of_ble_eq_true rfl⟩) rfl hl.1 rfl (Nat.le_of_ble_eq_true rfl) dL_law_561 ⟨show 10 + 2 * q ≤ 600000 by omega, show 62000 + 2005 * q ≤ 7302250 by omega⟩ (fun r2 e2 => ?_)
        refine lv_icmp_eq (tgt := 761) hx hb dL_law_564 (by decide) (fun _ => ?_) (fun cq => absurd (e1.trans e2.symm) cq)
        exact nxt _ _ _ _ _ _ _ _ _ (by omega) (by omega) hI7 hR7 hM7 w7 v7 d7
      · refine lv_tableIn (off := 536) (tgt := 569) hx hb dL_law_33 (by decide) (by decide) (by decide) (by decide) ?_
        refine lv_aload_n hx hb dL_law_569 rfl (lv_at hl 2 rfl) ?_
        refine lv_aload_n hx hb dL_law_570 rfl (lv_at hl 3 rfl) ?_
        refine lv_iload_n hx hb dL_law_571 rfl (lv_at hl 0 rfl) ?_
        refine lv_iconst (v := 1) hx hb dL_law_572 (by decide) ?_
        refine lv_iadd hx hb dL_law_573 ?_
        refine va_sld hx hb hX hbl hbA w7.2.2.1 pin1 dL_law_574 ?_
        refine lv_aload_n hx hb dL_law_575 rfl (lv_at hl 3 rfl) ?_
        refine lv_iload_n hx hb dL_law_576 rfl (lv_at hl 0 rfl) ?_
        refine lv_iconst (v := 2) hx hb dL_law_577 (by decide) ?_
        refine lv_iadd hx hb dL_law_578 ?_
        refine va_sld hx hb hX hbl hbA w7.2.2.1 pin2 dL_law_579 ?_
        refine lv_aload_n hx hb dL_law_580 rfl (lv_at hl 3 rfl) ?_
        refine lv_iload_n hx hb dL_law_581 rfl (lv_at hl 0 rfl) ?_
        refine lv_iconst (v := 3) hx hb dL_law_582 (by decide) ?_
        refine lv_iadd hx hb dL_law_583 ?_
        refine va_sld hx hb hX hbl hbA w7.2.2.1 pin3 dL_law_584 ?_
        refine lv_aload_n hx hb dL_law_585 rfl (lv_at hl 3 rfl) ?_
        refine lv_iload_n hx hb dL_law_586 rfl (lv_at hl 0 rfl) ?_
        refine lv_iconst (v := 4) hx hb dL_law_587 (by decide) ?_
        refine lv_iadd hx hb dL_law_588 ?_
        refine va_sld hx hb hX hbl hbA w7.2.2.1 pin4 dL_law_589 ?_
        refine lv_aload_n hx hb dL_law_590 rfl (lv_at hl 3 rfl) ?_
        refine lv_iload_n hx hb dL_law_591 rfl (lv_at hl 0 rfl) ?_
        refine lv_iconst (v := 5) hx hb dL_law_592 (by decide) ?_
        refine lv_iadd hx hb dL_law_593 ?_
        refine va_sld hx hb hX hbl hbA w7.2.2.1 pin5 dL_law_594 ?_
        refine kl_vi S9 w7 v7 d7 (c_plan l _ hR7 hI7 _ _ _ _ _) hR7.1 rfl (cwV 5 hts gL_law_X5_plan rfl rfl rfl (by decide +kernel) ⟨Nat.le_of_ble_eq_true rfl, Nat.le_of_ble_eq_true rfl⟩) rfl hl.1 rfl (Nat.le_of_ble_eq_true rfl) dL_law_595 ⟨show 10 + 2 * q + 0 ≤ 600000 by omega, show 62000 + 2005 * q + 0 ≤ 7302250 by omega⟩ (fun r1 wx8 H8 lc8 p1 w8 v8 d8 => ?_)
        obtain ⟨e1, ad8, ar8, hR8⟩ := p1
        refine lv_aload_n hx hb dL_law_598 rfl (lv_at hl 1 rfl) ?_
        refine lv_aload_n hx hb dL_law_599 rfl (lv_at hl 3 rfl) ?_
        refine lv_iload_n hx hb dL_law_600 rfl (lv_at hl 0 rfl) ?_
        refine lv_iconst (v := 1) hx hb dL_law_601 (by decide) ?_
        refine lv_iadd hx hb dL_law_602 ?_
        refine va_sld hx hb hX hbl hbA w8.2.2.1 pin1 dL_law_603 ?_
        refine lv_aload_n hx hb dL_law_604 rfl (lv_at hl 3 rfl) ?_
        refine lv_iload_n hx hb dL_law_605 rfl (lv_at hl 0 rfl) ?_
        refine lv_iconst (v := 2) hx hb dL_law_606 (by decide) ?_
        refine lv_iadd hx hb dL_law_607 ?_
        refine va_sld hx hb hX hbl hbA w8.2.2.1 pin2 dL_law_608 ?_
        refine lv_aload_n hx hb dL_law_609 rfl (lv_at hl 3 rfl) ?_
        refine lv_iload_n hx hb dL_law_610 rfl (lv_at hl 0 rfl) ?_
        refine lv_iconst (v := 3) hx hb dL_law_611 (by decide) ?_
        refine lv_iadd hx hb dL_law_612 ?_
        refine va_sld hx hb hX hbl hbA w8.2.2.1 pin3 dL_law_613 ?_
        refine lv_aload_n hx hb dL_law_614 rfl (lv_at hl 3 rfl) ?_
        refine lv_iload_n hx hb dL_law_615 rfl (lv_at hl 0 rfl) ?_
        refine lv_iconst (v := 4) hx hb dL_law_616 (by decide) ?_
        refine lv_iadd hx hb dL_law_617 ?_
        refine va_sld hx hb hX hbl hbA w8.2.2.1 pin4 dL_law_618 ?_
        refine lv_aload_n hx hb dL_law_619 rfl (lv_at hl 3 rfl) ?_
        refine lv_iload_n hx hb dL_law_620 rfl (lv_at hl 0 rfl) ?_
        refine lv_iconst (v := 5) hx hb dL_law_621 (by decide) ?_
        refine lv_iadd hx hb dL_law_622 ?_
        refine va_sld hx hb hX hbl hbA w8.2.2.1 pin5 dL_law_623 ?_
        refine kl_vi S9 v8 w8 d8.symm (c_mplan l _ hM7 hI7 _ _ _ _ _) mx rfl (cwV 5 hts gL_law_X6_plan rfl rfl rfl (by decide +kernel) ⟨Nat.le_of_ble_eq_true rfl, Nat.le_of_ble_eq_true rfl⟩) rfl hl.1 rfl (Nat.le_of_ble_eq_true rfl) dL_law_624 ⟨show 10 + 2 * q + 0 + 0 ≤ 600000 by omega, show 62000 + 2005 * q + 0 + 0 ≤ 7302250 by omega⟩ (fun r2 wm9 H9 lc9 p2 v9 w9 d9 => ?_)
        obtain ⟨e2, hM9⟩ := p2
        refine lv_icmp_eq (tgt := 761) hx hb dL_law_627 (by decide) (fun _ => ?_) (fun cq => absurd (e1.trans e2.symm) cq)
        exact nxt _ _ _ _ _ _ _ _ _ (by omega) (by omega) (inv_plan hI7 _ _ _ _ _) hR8 hM9 w9 v9 d9.symm
      · refine lv_tableIn (off := 599) (tgt := 632) hx hb dL_law_33 (by decide) (by decide) (by decide) (by decide) ?_
        refine lv_aload_n hx hb dL_law_632 rfl (lv_at hl 2 rfl) ?_
        refine kl_vi S9 w7 v7 d7 (c_run l _ hR7 hI7 ) hR7.1 rfl (cwV 0 hts gL_law_X5_run rfl rfl rfl (by decide +kernel) ⟨Nat.le_of_ble_eq_true rfl, Nat.le_of_ble_eq_true rfl⟩) rfl hl.1 rfl (Nat.le_of_ble_eq_true rfl) dL_law_633 ⟨show 10 + 2 * q + 0 ≤ 600000 by omega, show 62000 + 2005 * q + 0 ≤ 7302250 by omega⟩ (fun r1 wx8 H8 lc8 p1 w8 v8 d8 => ?_)
        obtain ⟨e1, ad8, ar8, hR8⟩ := p1
        refine lv_aload_n hx hb dL_law_636 rfl (lv_at hl 1 rfl) ?_
        refine kl_vi S9 v8 w8 d8.symm (c_mrun l _ hM7 hI7 ) mx rfl (cwV 0 hts gL_law_X6_run rfl rfl rfl (by decide +kernel) ⟨Nat.le_of_ble_eq_true rfl, Nat.le_of_ble_eq_true rfl⟩) rfl hl.1 rfl (Nat.le_of_ble_eq_true rfl) dL_law_637 ⟨show 10 + 2 * q + 0 + 0 ≤ 600000 by omega, show 62000 + 2005 * q + 0 + 0 ≤ 7302250 by omega⟩ (fun r2 wm9 H9 lc9 p2 v9 w9 d9 => ?_)
        obtain ⟨e2, hM9⟩ := p2
        refine lv_icmp_eq (tgt := 761) hx hb dL_law_640 (by decide) (fun _ => ?_) (fun cq => absurd (e1.trans e2.symm) cq)
        exact nxt _ _ _ _ _ _ _ _ _ (by omega) (by omega) (inv_run hI7) hR8 hM9 w9 v9 d9.symm
      · refine lv_tableIn (off := 612) (tgt := 645) hx hb dL_law_33 (by decide) (by decide) (by decide) (by decide) ?_
        refine lv_aload_n hx hb dL_law_645 rfl (lv_at hl 2 rfl) ?_
        refine k_vi S9 w7 (c_ended l _ hR7 ) hR7.1 rfl (cwV 0 hts gL_law_X5_ended rfl rfl rfl (by decide +kernel) ⟨Nat.le_of_ble_eq_true rfl, Nat.le_of_ble_eq_true rfl⟩) rfl hl.1 rfl (Nat.le_of_ble_eq_true rfl) dL_law_646 ⟨show 10 + 2 * q ≤ 600000 by omega, show 62000 + 2005 * q ≤ 7302250 by omega⟩ (fun r1 e1 => ?_)
        refine lv_aload_n hx hb dL_law_649 rfl (lv_at hl 1 rfl) ?_
        refine k_vi S9 v7 (c_mended l _ hM7 ) mx rfl (cwV 0 hts gL_law_X6_ended rfl rfl rfl (by decide +kernel) ⟨Nat.le_of_ble_eq_true rfl, Nat.le_of_ble_eq_true rfl⟩) rfl hl.1 rfl (Nat.le_of_ble_eq_true rfl) dL_law_650 ⟨show 10 + 2 * q ≤ 600000 by omega, show 62000 + 2005 * q ≤ 7302250 by omega⟩ (fun r2 e2 => ?_)
        refine lv_icmp_eq (tgt := 761) hx hb dL_law_653 (by decide) (fun _ => ?_) (fun cq => absurd (e1.trans e2.symm) cq)
        exact nxt _ _ _ _ _ _ _ _ _ (by omega) (by omega) hI7 hR7 hM7 w7 v7 d7
      · refine lv_tableIn (off := 625) (tgt := 658) hx hb dL_law_33 (by decide) (by decide) (by decide) (by decide) ?_
        refine lv_aload_n hx hb dL_law_658 rfl (lv_at hl 2 rfl) ?_
        refine lv_aload_n hx hb dL_law_659 rfl (lv_at hl 3 rfl) ?_
        refine lv_iload_n hx hb dL_law_660 rfl (lv_at hl 0 rfl) ?_
        refine lv_iconst (v := 1) hx hb dL_law_661 (by decide) ?_
        refine lv_iadd hx hb dL_law_662 ?_
        refine va_sld hx hb hX hbl hbA w7.2.2.1 pin1 dL_law_663 ?_
        refine kl_vi S9 w7 v7 d7 (c_clear l _ hR7 hI7 _) hR7.1 rfl (cwV 1 hts gL_law_X5_clear rfl rfl rfl (by decide +kernel) ⟨Nat.le_of_ble_eq_true rfl, Nat.le_of_ble_eq_true rfl⟩) rfl hl.1 rfl (Nat.le_of_ble_eq_true rfl) dL_law_664 ⟨show 10 + 2 * q + 0 ≤ 600000 by omega, show 62000 + 2005 * q + 0 ≤ 7302250 by omega⟩ (fun r1 wx8 H8 lc8 p1 w8 v8 d8 => ?_)
        obtain ⟨e1, ad8, ar8, hR8⟩ := p1
        refine lv_aload_n hx hb dL_law_667 rfl (lv_at hl 1 rfl) ?_
        refine lv_aload_n hx hb dL_law_668 rfl (lv_at hl 3 rfl) ?_
        refine lv_iload_n hx hb dL_law_669 rfl (lv_at hl 0 rfl) ?_
        refine lv_iconst (v := 1) hx hb dL_law_670 (by decide) ?_
        refine lv_iadd hx hb dL_law_671 ?_
        refine va_sld hx hb hX hbl hbA w8.2.2.1 pin1 dL_law_672 ?_
        refine kl_vi S9 v8 w8 d8.symm (c_mclear l _ hM7 hI7 _) mx rfl (cwV 1 hts gL_law_X6_clear rfl rfl rfl (by decide +kernel) ⟨Nat.le_of_ble_eq_true rfl, Nat.le_of_ble_eq_true rfl⟩) rfl hl.1 rfl (Nat.le_of_ble_eq_true rfl) dL_law_673 ⟨show 10 + 2 * q + 0 + 0 ≤ 600000 by omega, show 62000 + 2005 * q + 0 + 0 ≤ 7302250 by omega⟩ (fun r2 wm9 H9 lc9 p2 v9 w9 d9 => ?_)
        obtain ⟨e2, hM9⟩ := p2
        refine lv_icmp_eq (tgt := 761) hx hb dL_law_676 (by decide) (fun _ => ?_) (fun cq => absurd (e1.trans e2.symm) cq)
        exact nxt _ _ _ _ _ _ _ _ _ (by omega) (by omega) (inv_clear hI7 _) hR8 hM9 w9 v9 d9.symm
      · refine lv_tableIn (off := 648) (tgt := 681) hx hb dL_law_33 (by decide) (by decide) (by decide) (by decide) ?_
        refine lv_aload_n hx hb dL_law_681 rfl (lv_at hl 2 rfl) ?_
        refine lv_aload_n hx hb dL_law_682 rfl (lv_at hl 3 rfl) ?_
        refine lv_iload_n hx hb dL_law_683 rfl (lv_at hl 0 rfl) ?_
        refine lv_iconst (v := 1) hx hb dL_law_684 (by decide) ?_
        refine lv_iadd hx hb dL_law_685 ?_
        refine va_sld hx hb hX hbl hbA w7.2.2.1 pin1 dL_law_686 ?_
        refine lv_aload_n hx hb dL_law_687 rfl (lv_at hl 3 rfl) ?_
        refine lv_iload_n hx hb dL_law_688 rfl (lv_at hl 0 rfl) ?_
        refine lv_iconst (v := 2) hx hb dL_law_689 (by decide) ?_
        refine lv_iadd hx hb dL_law_690 ?_
        refine va_sld hx hb hX hbl hbA w7.2.2.1 pin2 dL_law_691 ?_
        refine k_vi S9 w7 (c_same l _ hR7 hI7 _ _) hR7.1 rfl (cwV 2 hts gL_law_X5_same rfl rfl rfl (by decide +kernel) ⟨Nat.le_of_ble_eq_true rfl, Nat.le_of_ble_eq_true rfl⟩) rfl hl.1 rfl (Nat.le_of_ble_eq_true rfl) dL_law_692 ⟨show 10 + 2 * q ≤ 600000 by omega, show 62000 + 2005 * q ≤ 7302250 by omega⟩ (fun r1 e1 => ?_)
        refine lv_aload_n hx hb dL_law_695 rfl (lv_at hl 1 rfl) ?_
        refine lv_aload_n hx hb dL_law_696 rfl (lv_at hl 3 rfl) ?_
        refine lv_iload_n hx hb dL_law_697 rfl (lv_at hl 0 rfl) ?_
        refine lv_iconst (v := 1) hx hb dL_law_698 (by decide) ?_
        refine lv_iadd hx hb dL_law_699 ?_
        refine va_sld hx hb hX hbl hbA w7.2.2.1 pin1 dL_law_700 ?_
        refine lv_aload_n hx hb dL_law_701 rfl (lv_at hl 3 rfl) ?_
        refine lv_iload_n hx hb dL_law_702 rfl (lv_at hl 0 rfl) ?_
        refine lv_iconst (v := 2) hx hb dL_law_703 (by decide) ?_
        refine lv_iadd hx hb dL_law_704 ?_
        refine va_sld hx hb hX hbl hbA w7.2.2.1 pin2 dL_law_705 ?_
        refine k_vi S9 v7 (c_msame l _ hM7 hI7 _ _) mx rfl (cwV 2 hts gL_law_X6_same rfl rfl rfl (by decide +kernel) ⟨Nat.le_of_ble_eq_true rfl, Nat.le_of_ble_eq_true rfl⟩) rfl hl.1 rfl (Nat.le_of_ble_eq_true rfl) dL_law_706 ⟨show 10 + 2 * q ≤ 600000 by omega, show 62000 + 2005 * q ≤ 7302250 by omega⟩ (fun r2 e2 => ?_)
        refine lv_icmp_eq (tgt := 761) hx hb dL_law_709 (by decide) (fun _ => ?_) (fun cq => absurd (e1.trans e2.symm) cq)
        exact nxt _ _ _ _ _ _ _ _ _ (by omega) (by omega) hI7 hR7 hM7 w7 v7 d7
      · refine lv_tableIn (off := 681) (tgt := 714) hx hb dL_law_33 (by decide) (by decide) (by decide) (by decide) ?_
        refine lv_aload_n hx hb dL_law_714 rfl (lv_at hl 2 rfl) ?_
        refine lv_aload_n hx hb dL_law_715 rfl (lv_at hl 3 rfl) ?_
        refine lv_iload_n hx hb dL_law_716 rfl (lv_at hl 0 rfl) ?_
        refine lv_iconst (v := 1) hx hb dL_law_717 (by decide) ?_
        refine lv_iadd hx hb dL_law_718 ?_
        refine va_sld hx hb hX hbl hbA w7.2.2.1 pin1 dL_law_719 ?_
        refine kl_vl S9 w7 v7 d7 (c_digest l _ hR7 hI7 _) hR7.1 rfl (cwV 1 hts gL_law_X5_digest rfl rfl rfl (by decide +kernel) ⟨Nat.le_of_ble_eq_true rfl, Nat.le_of_ble_eq_true rfl⟩) rfl hl.1 rfl (Nat.le_of_ble_eq_true rfl) dL_law_720 ⟨show 10 + 2 * q + 0 ≤ 600000 by omega, show 62000 + 2005 * q + 0 ≤ 7302250 by omega⟩ (fun r1 wx8 H8 lc8 p1 w8 v8 d8 => ?_)
        obtain ⟨e1, ad8, ar8, hR8⟩ := p1
        refine lv_aload_n hx hb dL_law_723 rfl (lv_at hl 1 rfl) ?_
        refine lv_aload_n hx hb dL_law_724 rfl (lv_at hl 3 rfl) ?_
        refine lv_iload_n hx hb dL_law_725 rfl (lv_at hl 0 rfl) ?_
        refine lv_iconst (v := 1) hx hb dL_law_726 (by decide) ?_
        refine lv_iadd hx hb dL_law_727 ?_
        refine va_sld hx hb hX hbl hbA w8.2.2.1 pin1 dL_law_728 ?_
        refine k_vl S9 v8 (c_mdigest l _ hM7 hI7 _) mx rfl (cwV 1 hts gL_law_X6_digest rfl rfl rfl (by decide +kernel) ⟨Nat.le_of_ble_eq_true rfl, Nat.le_of_ble_eq_true rfl⟩) rfl hl.1 rfl (Nat.le_of_ble_eq_true rfl) dL_law_729 ⟨show 10 + 2 * q + 0 ≤ 600000 by omega, show 62000 + 2005 * q + 0 ≤ 7302250 by omega⟩ (fun r2 e2 => ?_)
        refine W.lcmp hx hb dL_law_732 ?_
        refine lv_if_eq (tgt := 761) hx hb dL_law_733 (by decide) (fun _ => ?_) (fun cq => absurd ((lg_cmp_eq _ _).mpr (e1.trans e2.symm)) cq)
        exact nxt _ _ _ _ _ _ _ _ _ (by omega) (by omega) hI7 hR8 hM7 w8 v8 d8
      · refine lv_tableIn (off := 705) (tgt := 738) hx hb dL_law_33 (by decide) (by decide) (by decide) (by decide) ?_
        refine lv_aload_n hx hb dL_law_738 rfl (lv_at hl 2 rfl) ?_
        refine lv_aload_n hx hb dL_law_739 rfl (lv_at hl 3 rfl) ?_
        refine lv_iload_n hx hb dL_law_740 rfl (lv_at hl 0 rfl) ?_
        refine lv_iconst (v := 1) hx hb dL_law_741 (by decide) ?_
        refine lv_iadd hx hb dL_law_742 ?_
        refine va_sld hx hb hX hbl hbA w7.2.2.1 pin1 dL_law_743 ?_
        refine k_vi S9 w7 (c_count l _ hR7 _) hR7.1 rfl (cwV 1 hts gL_law_X5_count rfl rfl rfl (by decide +kernel) ⟨Nat.le_of_ble_eq_true rfl, Nat.le_of_ble_eq_true rfl⟩) rfl hl.1 rfl (Nat.le_of_ble_eq_true rfl) dL_law_744 ⟨show 10 + 2 * q ≤ 600000 by omega, show 62000 + 2005 * q ≤ 7302250 by omega⟩ (fun r1 e1 => ?_)
        refine lv_aload_n hx hb dL_law_747 rfl (lv_at hl 1 rfl) ?_
        refine lv_aload_n hx hb dL_law_748 rfl (lv_at hl 3 rfl) ?_
        refine lv_iload_n hx hb dL_law_749 rfl (lv_at hl 0 rfl) ?_
        refine lv_iconst (v := 1) hx hb dL_law_750 (by decide) ?_
        refine lv_iadd hx hb dL_law_751 ?_
        refine va_sld hx hb hX hbl hbA w7.2.2.1 pin1 dL_law_752 ?_
        refine k_vi S9 v7 (c_mcount l _ hM7 hI7 _) mx rfl (cwV 1 hts gL_law_X6_count rfl rfl rfl (by decide +kernel) ⟨Nat.le_of_ble_eq_true rfl, Nat.le_of_ble_eq_true rfl⟩) rfl hl.1 rfl (Nat.le_of_ble_eq_true rfl) dL_law_753 ⟨show 10 + 2 * q ≤ 600000 by omega, show 62000 + 2005 * q ≤ 7302250 by omega⟩ (fun r2 e2 => ?_)
        refine lv_icmp_eq (tgt := 761) hx hb dL_law_756 (by decide) (fun _ => ?_) (fun cq => absurd (e1.trans e2.symm) cq)
        exact nxt _ _ _ _ _ _ _ _ _ (by omega) (by omega) hI7 hR7 hM7 w7 v7 d7
      · refine lv_tableOut (tgt := 761) hx hb dL_law_33 (Or.inr (by rw [nI_toInt (by omega)]; omega)) (by decide) ?_
        exact nxt _ _ _ _ _ _ _ _ _ (by omega) (by omega) hI7 hR7 hM7 w7 v7 d7
