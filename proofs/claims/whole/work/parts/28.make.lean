set_option maxHeartbeats 4000000 in
set_option maxRecDepth 100000 in
theorem c_Item_init_0 (l : Launch) {G : Gt} {ws : va_W} (sz : Nat) {a : Nat} {sz0 k0 : Int32} (ha : hp ws a (.inr (0, [.int sz0, .int k0, .null, .int 0, .long 0]))) (k : Int32) : Met l yX0_init wsX0_init ({ frames := 1, cells := 0, slots := 0, locals := 12 } : Room) (Pw G [.ref a, .int k] ws sz) (va_Qv (fun (u : va_W) => hu ws a (.inr (0, [.int sz0, .int k, .null, .int 0, .long 0])) u) (Bw G ws sz) (va_A ws sz)) 0 0 (va_A ws sz) := by
  refine Met_pw (cc := cX0_init) (maxL := 2) (ret := none) (by decide) rfl (Nat.le_of_ble_eq_true rfl) ?_
  intro p e s m below meth c ls hsz S9 hr hlk hnm w hl
  subst hsz
  replace S9 : CallFix p m c cX0_init 2 s _ wsX0_init RX0 := S9
  have hx := S9.1
  have hb := S9.2.1
  have hown := S9.2.2.2.1
  have hts := S9.2.2.2.2
  replace hl : lv_has ls 2 [(0, .ref a), (1, .int k)] := hl
  refine lv_aload_n hx hb dX0_init_0 rfl (lv_at hl 0 rfl) ?_
  refine W.objInit hx hb hown (hts (.methodLink RX0 1 objectInit) (by decide +kernel)) (hts (.instanceMethod objectInit) (by decide +kernel)) (hts _ (List.mem_of_getElem? (i := 3) rfl)) rfl (hl.1.trans S9.2.2.1.symm) rfl dX0_init_1 (Nat.le_of_ble_eq_true rfl) (Nat.le_of_ble_eq_true rfl) ?_
  refine W.eq (g2 := F0 m 4 ls []) rfl ?_
  refine lv_aload_n hx hb dX0_init_4 rfl (lv_at hl 0 rfl) ?_
  refine lv_iload_n hx hb dX0_init_5 rfl (lv_at hl 1 rfl) ?_
  refine r_putF S9 w hnm ha rfl (by decide +kernel) tyX1_ok nmX1 1 (by decide) (by decide +kernel) rfl rfl rfl rfl (Nat.le_of_ble_eq_true rfl) dX0_init_6 (fun ws1 H1 lc1 u1 w1 => ?_)
  have f1 : hp ws1 a (.inr (0, [.int sz0, .int k, .null, .int 0, .long 0])) := u1.1
  exact ew_v S9 hr hlk w1 (u1) dX0_init_9 (by decide) (by decide)

set_option maxHeartbeats 4000000 in
set_option maxRecDepth 100000 in
theorem c_Item_init_1 (l : Launch) {G : Gt} {ws : va_W} (sz : Nat) {a : Nat} {sz0 k0 : Int32} (ha : hp ws a (.inr (1, [.int sz0, .int k0, .null]))) (k : Int32) : Met l yX0_init wsX0_init ({ frames := 1, cells := 0, slots := 0, locals := 12 } : Room) (Pw G [.ref a, .int k] ws sz) (va_Qv (fun (u : va_W) => hu ws a (.inr (1, [.int sz0, .int k, .null])) u) (Bw G ws sz) (va_A ws sz)) 0 0 (va_A ws sz) := by
  refine Met_pw (cc := cX0_init) (maxL := 2) (ret := none) (by decide) rfl (Nat.le_of_ble_eq_true rfl) ?_
  intro p e s m below meth c ls hsz S9 hr hlk hnm w hl
  subst hsz
  replace S9 : CallFix p m c cX0_init 2 s _ wsX0_init RX0 := S9
  have hx := S9.1
  have hb := S9.2.1
  have hown := S9.2.2.2.1
  have hts := S9.2.2.2.2
  replace hl : lv_has ls 2 [(0, .ref a), (1, .int k)] := hl
  refine lv_aload_n hx hb dX0_init_0 rfl (lv_at hl 0 rfl) ?_
  refine W.objInit hx hb hown (hts (.methodLink RX0 1 objectInit) (by decide +kernel)) (hts (.instanceMethod objectInit) (by decide +kernel)) (hts _ (List.mem_of_getElem? (i := 3) rfl)) rfl (hl.1.trans S9.2.2.1.symm) rfl dX0_init_1 (Nat.le_of_ble_eq_true rfl) (Nat.le_of_ble_eq_true rfl) ?_
  refine W.eq (g2 := F0 m 4 ls []) rfl ?_
  refine lv_aload_n hx hb dX0_init_4 rfl (lv_at hl 0 rfl) ?_
  refine lv_iload_n hx hb dX0_init_5 rfl (lv_at hl 1 rfl) ?_
  refine r_putF S9 w hnm ha rfl (by decide +kernel) tyX2_ok nmX2 1 (by decide) (by decide +kernel) rfl rfl rfl rfl (Nat.le_of_ble_eq_true rfl) dX0_init_6 (fun ws1 H1 lc1 u1 w1 => ?_)
  have f1 : hp ws1 a (.inr (1, [.int sz0, .int k, .null])) := u1.1
  exact ew_v S9 hr hlk w1 (u1) dX0_init_9 (by decide) (by decide)

set_option maxHeartbeats 4000000 in
set_option maxRecDepth 100000 in
theorem c_Item_init_2 (l : Launch) {G : Gt} {ws : va_W} (sz : Nat) {a : Nat} {k0 v0 : Int32} (ha : hp ws a (.inr (2, [.int k0, .int v0]))) (k : Int32) : Met l yX0_init wsX0_init ({ frames := 1, cells := 0, slots := 0, locals := 12 } : Room) (Pw G [.ref a, .int k] ws sz) (va_Qv (fun (u : va_W) => hu ws a (.inr (2, [.int k, .int v0])) u) (Bw G ws sz) (va_A ws sz)) 0 0 (va_A ws sz) := by
  refine Met_pw (cc := cX0_init) (maxL := 2) (ret := none) (by decide) rfl (Nat.le_of_ble_eq_true rfl) ?_
  intro p e s m below meth c ls hsz S9 hr hlk hnm w hl
  subst hsz
  replace S9 : CallFix p m c cX0_init 2 s _ wsX0_init RX0 := S9
  have hx := S9.1
  have hb := S9.2.1
  have hown := S9.2.2.2.1
  have hts := S9.2.2.2.2
  replace hl : lv_has ls 2 [(0, .ref a), (1, .int k)] := hl
  refine lv_aload_n hx hb dX0_init_0 rfl (lv_at hl 0 rfl) ?_
  refine W.objInit hx hb hown (hts (.methodLink RX0 1 objectInit) (by decide +kernel)) (hts (.instanceMethod objectInit) (by decide +kernel)) (hts _ (List.mem_of_getElem? (i := 3) rfl)) rfl (hl.1.trans S9.2.2.1.symm) rfl dX0_init_1 (Nat.le_of_ble_eq_true rfl) (Nat.le_of_ble_eq_true rfl) ?_
  refine W.eq (g2 := F0 m 4 ls []) rfl ?_
  refine lv_aload_n hx hb dX0_init_4 rfl (lv_at hl 0 rfl) ?_
  refine lv_iload_n hx hb dX0_init_5 rfl (lv_at hl 1 rfl) ?_
  refine r_putF S9 w hnm ha rfl (by decide +kernel) tyX4_ok nmX4 0 (by decide) (by decide +kernel) rfl rfl rfl rfl (Nat.le_of_ble_eq_true rfl) dX0_init_6 (fun ws1 H1 lc1 u1 w1 => ?_)
  have f1 : hp ws1 a (.inr (2, [.int k, .int v0])) := u1.1
  exact ew_v S9 hr hlk w1 (u1) dX0_init_9 (by decide) (by decide)

set_option maxHeartbeats 4000000 in
set_option maxRecDepth 100000 in
theorem c_Row_init_0 (l : Launch) {G : Gt} {ws : va_W} (sz : Nat) {a : Nat} {sz0 k0 : Int32} (ha : hp ws a (.inr (0, [.int sz0, .int k0, .null, .int 0, .long 0]))) (k n : Int32) : Met l yX3_init wsX3_init ({ frames := 2, cells := 0, slots := 0, locals := 33 } : Room) (Pw G [.ref a, .int k, .int n] ws sz) (va_Qv (fun (u : va_W) => hu ws a (.inr (0, [.int n, .int k, .null, .int 0, .long 0])) u) (Bw G ws sz) (va_A ws sz)) 0 0 (va_A ws sz) := by
  refine Met_pw (cc := cX3_init) (maxL := 3) (ret := none) (by decide) rfl (Nat.le_of_ble_eq_true rfl) ?_
  intro p e s m below meth c ls hsz S9 hr hlk hnm w hl
  subst hsz
  replace S9 : CallFix p m c cX3_init 3 s _ wsX3_init RX3 := S9
  have hx := S9.1
  have hb := S9.2.1
  have hown := S9.2.2.2.1
  have hts := S9.2.2.2.2
  replace hl : lv_has ls 3 [(0, .ref a), (1, .int k), (2, .int n)] := hl
  refine lv_aload_n hx hb dX3_init_0 rfl (lv_at hl 0 rfl) ?_
  refine lv_iload_n hx hb dX3_init_1 rfl (lv_at hl 1 rfl) ?_
  refine kw_iv S9 w (c_Item_init_0 l _ ha k) (cwI 1 hts gX3_init_X0_init rfl rfl rfl (hts (.initialized RX0) (by decide +kernel)) (hts (.methodLink RX3 1 yX0_init) (by decide +kernel)) (hts (.instanceMethod yX0_init) (by decide +kernel)) rfl (by decide +kernel) ⟨Nat.le_of_ble_eq_true rfl, Nat.le_of_ble_eq_true rfl⟩) rfl hl.1 rfl (Nat.le_of_ble_eq_true rfl) dX3_init_2 ⟨Nat.le_of_ble_eq_true rfl, Nat.le_of_ble_eq_true rfl⟩ (fun u8 H8 lc8 p8 w8 => ?_)
  have f8 : hp u8 a (.inr (0, [.int sz0, .int k, .null, .int 0, .long 0])) := p8.1
  refine lv_aload_n hx hb dX3_init_5 rfl (lv_at hl 0 rfl) ?_
  refine lv_iload_n hx hb dX3_init_6 rfl (lv_at hl 2 rfl) ?_
  refine r_putF S9 w8 hnm f8 rfl (by decide +kernel) tyX1_ok nmX1 0 (by decide) (by decide +kernel) rfl rfl rfl rfl (Nat.le_of_ble_eq_true rfl) dX3_init_7 (fun ws1 H1 lc1 u1 w1 => ?_)
  have f1 : hp ws1 a (.inr (0, [.int n, .int k, .null, .int 0, .long 0])) := u1.1
  exact ew_v S9 hr hlk w1 (hu_again p8 u1) dX3_init_10 (by decide) (by decide)

set_option maxHeartbeats 4000000 in
set_option maxRecDepth 100000 in
theorem c_Row_init_1 (l : Launch) {G : Gt} {ws : va_W} (sz : Nat) {a : Nat} {sz0 k0 : Int32} (ha : hp ws a (.inr (1, [.int sz0, .int k0, .null]))) (k n : Int32) : Met l yX3_init wsX3_init ({ frames := 2, cells := 0, slots := 0, locals := 33 } : Room) (Pw G [.ref a, .int k, .int n] ws sz) (va_Qv (fun (u : va_W) => hu ws a (.inr (1, [.int n, .int k, .null])) u) (Bw G ws sz) (va_A ws sz)) 0 0 (va_A ws sz) := by
  refine Met_pw (cc := cX3_init) (maxL := 3) (ret := none) (by decide) rfl (Nat.le_of_ble_eq_true rfl) ?_
  intro p e s m below meth c ls hsz S9 hr hlk hnm w hl
  subst hsz
  replace S9 : CallFix p m c cX3_init 3 s _ wsX3_init RX3 := S9
  have hx := S9.1
  have hb := S9.2.1
  have hown := S9.2.2.2.1
  have hts := S9.2.2.2.2
  replace hl : lv_has ls 3 [(0, .ref a), (1, .int k), (2, .int n)] := hl
  refine lv_aload_n hx hb dX3_init_0 rfl (lv_at hl 0 rfl) ?_
  refine lv_iload_n hx hb dX3_init_1 rfl (lv_at hl 1 rfl) ?_
  refine kw_iv S9 w (c_Item_init_1 l _ ha k) (cwI 1 hts gX3_init_X0_init rfl rfl rfl (hts (.initialized RX0) (by decide +kernel)) (hts (.methodLink RX3 1 yX0_init) (by decide +kernel)) (hts (.instanceMethod yX0_init) (by decide +kernel)) rfl (by decide +kernel) ⟨Nat.le_of_ble_eq_true rfl, Nat.le_of_ble_eq_true rfl⟩) rfl hl.1 rfl (Nat.le_of_ble_eq_true rfl) dX3_init_2 ⟨Nat.le_of_ble_eq_true rfl, Nat.le_of_ble_eq_true rfl⟩ (fun u8 H8 lc8 p8 w8 => ?_)
  have f8 : hp u8 a (.inr (1, [.int sz0, .int k, .null])) := p8.1
  refine lv_aload_n hx hb dX3_init_5 rfl (lv_at hl 0 rfl) ?_
  refine lv_iload_n hx hb dX3_init_6 rfl (lv_at hl 2 rfl) ?_
  refine r_putF S9 w8 hnm f8 rfl (by decide +kernel) tyX2_ok nmX2 0 (by decide) (by decide +kernel) rfl rfl rfl rfl (Nat.le_of_ble_eq_true rfl) dX3_init_7 (fun ws1 H1 lc1 u1 w1 => ?_)
  have f1 : hp ws1 a (.inr (1, [.int n, .int k, .null])) := u1.1
  exact ew_v S9 hr hlk w1 (hu_again p8 u1) dX3_init_10 (by decide) (by decide)

set_option maxHeartbeats 4000000 in
set_option maxRecDepth 100000 in
theorem c_Thing_init (l : Launch) {G : Gt} {ws : va_W} (sz : Nat) {a : Nat} {k0 v0 : Int32} (ha : hp ws a (.inr (2, [.int k0, .int v0]))) (k v : Int32) : Met l yX4_init wsX4_init ({ frames := 2, cells := 0, slots := 0, locals := 33 } : Room) (Pw G [.ref a, .int k, .int v] ws sz) (va_Qv (fun (u : va_W) => hu ws a (.inr (2, [.int k, .int v])) u) (Bw G ws sz) (va_A ws sz)) 0 0 (va_A ws sz) := by
  refine Met_pw (cc := cX4_init) (maxL := 3) (ret := none) (by decide) rfl (Nat.le_of_ble_eq_true rfl) ?_
  intro p e s m below meth c ls hsz S9 hr hlk hnm w hl
  subst hsz
  replace S9 : CallFix p m c cX4_init 3 s _ wsX4_init RX4 := S9
  have hx := S9.1
  have hb := S9.2.1
  have hown := S9.2.2.2.1
  have hts := S9.2.2.2.2
  replace hl : lv_has ls 3 [(0, .ref a), (1, .int k), (2, .int v)] := hl
  refine lv_aload_n hx hb dX4_init_0 rfl (lv_at hl 0 rfl) ?_
  refine lv_iload_n hx hb dX4_init_1 rfl (lv_at hl 1 rfl) ?_
  refine kw_iv S9 w (c_Item_init_2 l _ ha k) (cwI 1 hts gX4_init_X0_init rfl rfl rfl (hts (.initialized RX0) (by decide +kernel)) (hts (.methodLink RX4 1 yX0_init) (by decide +kernel)) (hts (.instanceMethod yX0_init) (by decide +kernel)) rfl (by decide +kernel) ⟨Nat.le_of_ble_eq_true rfl, Nat.le_of_ble_eq_true rfl⟩) rfl hl.1 rfl (Nat.le_of_ble_eq_true rfl) dX4_init_2 ⟨Nat.le_of_ble_eq_true rfl, Nat.le_of_ble_eq_true rfl⟩ (fun u8 H8 lc8 p8 w8 => ?_)
  have f8 : hp u8 a (.inr (2, [.int k, .int v0])) := p8.1
  refine lv_aload_n hx hb dX4_init_5 rfl (lv_at hl 0 rfl) ?_
  refine lv_iload_n hx hb dX4_init_6 rfl (lv_at hl 2 rfl) ?_
  refine r_putF S9 w8 hnm f8 rfl (by decide +kernel) tyX4_ok nmX4 1 (by decide) (by decide +kernel) rfl rfl rfl rfl (Nat.le_of_ble_eq_true rfl) dX4_init_7 (fun ws1 H1 lc1 u1 w1 => ?_)
  have f1 : hp ws1 a (.inr (2, [.int k, .int v])) := u1.1
  exact ew_v S9 hr hlk w1 (hu_again p8 u1) dX4_init_10 (by decide) (by decide)

set_option maxHeartbeats 4000000 in
set_option maxRecDepth 100000 in
theorem c_init_0 (l : Launch) {G : Gt} {ws : va_W} (sz : Nat) {a : Nat} {sz0 k0 : Int32} (ha : hp ws a (.inr (0, [.int sz0, .int k0, .null, .int 0, .long 0]))) (k : Int32) (n : Nat) (hn : n ≤ 2000) : Met l yX1_init wsX1_init ({ frames := 3, cells := 1, slots := 2000, locals := 55 } : Room) (Pw G [.ref a, .int k, .int (nI n)] ws sz) (va_Qv (fun (u : va_W) => ∃ b, nw2 ws a b (.inr (0, [.int (nI n), .int k, .ref b, .int 0, .long 0])) (aJ G n (fun _ => 0)) u) (Bw G ws sz) (va_A ws sz)) 1 2000 (va_A ws sz) := by
  refine Met_pw (cc := cX1_init) (maxL := 3) (ret := none) (by decide) rfl (Nat.le_of_ble_eq_true rfl) ?_
  intro p e s m below meth c ls hsz S9 hr hlk hnm w hl
  subst hsz
  replace S9 : CallFix p m c cX1_init 3 s _ wsX1_init RX1 := S9
  have hx := S9.1
  have hb := S9.2.1
  have hown := S9.2.2.2.1
  have hts := S9.2.2.2.2
  replace hl : lv_has ls 3 [(0, .ref a), (1, .int k), (2, .int (nI n))] := hl
  refine lv_aload_n hx hb dX1_init_0 rfl (lv_at hl 0 rfl) ?_
  refine lv_iload_n hx hb dX1_init_1 rfl (lv_at hl 1 rfl) ?_
  refine lv_iload_n hx hb dX1_init_2 rfl (lv_at hl 2 rfl) ?_
  refine kw_iv S9 w (c_Row_init_0 l _ ha k (nI n)) (cwI 2 hts gX1_init_X3_init rfl rfl rfl (hts (.initialized RX3) (by decide +kernel)) (hts (.methodLink RX1 3 yX3_init) (by decide +kernel)) (hts (.instanceMethod yX3_init) (by decide +kernel)) rfl (by decide +kernel) ⟨Nat.le_of_ble_eq_true rfl, Nat.le_of_ble_eq_true rfl⟩) rfl hl.1 rfl (Nat.le_of_ble_eq_true rfl) dX1_init_3 ⟨Nat.le_of_ble_eq_true rfl, Nat.le_of_ble_eq_true rfl⟩ (fun u8 H8 lc8 p8 w8 => ?_)
  have f8 : hp u8 a (.inr (0, [.int (nI n), .int k, .null, .int 0, .long 0])) := p8.1
  refine lv_aload_n hx hb dX1_init_6 rfl (lv_at hl 0 rfl) ?_
  refine lv_iload_n hx hb dX1_init_7 rfl (lv_at hl 2 rfl) ?_
  refine r_newJ S9 w8 (by decide +kernel) (nI_pos (by omega)) (nI_clamp (by omega)) (by omega) (Nat.le_of_ble_eq_true rfl) (show 0 + 0 + n ≤ 2000 by omega) dX1_init_8 (fun q ws9 H9 fr9 u9 w9 => ?_)
  have naq : a ≠ q := fun z => fr9 _ (by rw [← z]; exact f8)
  have f9 : hp ws9 a (.inr (0, [.int (nI n), .int k, .null, .int 0, .long 0])) := u9.keep naq f8
  refine r_putF S9 w9 hnm f9 rfl (by decide +kernel) tyX1_ok nmX1 2 (by decide) (by decide +kernel) rfl rfl rfl rfl (Nat.le_of_ble_eq_true rfl) dX1_init_10 (fun ws1 H1 lc1 u1 w1 => ?_)
  have f1 : hp ws1 a (.inr (0, [.int (nI n), .int k, .ref q, .int 0, .long 0])) := u1.1
  exact ew_v S9 hr hlk w1 (⟨q, u1.1, u1.keep naq.symm u9.1, naq, fun e he => fr9 e ((p8.2 q e naq.symm).mpr he), fun c9 e h1 h2 => (u1.2 c9 e h1).trans ((u9.2 c9 e h2).trans (p8.2 c9 e h1))⟩) dX1_init_13 (by decide) (show 0 + 0 + n ≤ 2000 by omega)

set_option maxHeartbeats 4000000 in
set_option maxRecDepth 100000 in
theorem c_init_1 (l : Launch) {G : Gt} {ws : va_W} (sz : Nat) {a : Nat} {sz0 k0 : Int32} (ha : hp ws a (.inr (1, [.int sz0, .int k0, .null]))) (k : Int32) (n : Nat) (hn : n ≤ 2000) : Met l yX2_init wsX2_init ({ frames := 3, cells := 1, slots := 2000, locals := 55 } : Room) (Pw G [.ref a, .int k, .int (nI n)] ws sz) (va_Qv (fun (u : va_W) => ∃ b, nw2 ws a b (.inr (1, [.int (nI n), .int k, .ref b])) (aT G n (fun _ => none)) u) (Bw G ws sz) (va_A ws sz)) 1 2000 (va_A ws sz) := by
  refine Met_pw (cc := cX2_init) (maxL := 3) (ret := none) (by decide) rfl (Nat.le_of_ble_eq_true rfl) ?_
  intro p e s m below meth c ls hsz S9 hr hlk hnm w hl
  subst hsz
  replace S9 : CallFix p m c cX2_init 3 s _ wsX2_init RX2 := S9
  have hx := S9.1
  have hb := S9.2.1
  have hown := S9.2.2.2.1
  have hts := S9.2.2.2.2
  replace hl : lv_has ls 3 [(0, .ref a), (1, .int k), (2, .int (nI n))] := hl
  refine lv_aload_n hx hb dX2_init_0 rfl (lv_at hl 0 rfl) ?_
  refine lv_iload_n hx hb dX2_init_1 rfl (lv_at hl 1 rfl) ?_
  refine lv_iload_n hx hb dX2_init_2 rfl (lv_at hl 2 rfl) ?_
  refine kw_iv S9 w (c_Row_init_1 l _ ha k (nI n)) (cwI 2 hts gX2_init_X3_init rfl rfl rfl (hts (.initialized RX3) (by decide +kernel)) (hts (.methodLink RX2 3 yX3_init) (by decide +kernel)) (hts (.instanceMethod yX3_init) (by decide +kernel)) rfl (by decide +kernel) ⟨Nat.le_of_ble_eq_true rfl, Nat.le_of_ble_eq_true rfl⟩) rfl hl.1 rfl (Nat.le_of_ble_eq_true rfl) dX2_init_3 ⟨Nat.le_of_ble_eq_true rfl, Nat.le_of_ble_eq_true rfl⟩ (fun u8 H8 lc8 p8 w8 => ?_)
  have f8 : hp u8 a (.inr (1, [.int (nI n), .int k, .null])) := p8.1
  refine lv_aload_n hx hb dX2_init_6 rfl (lv_at hl 0 rfl) ?_
  refine lv_iload_n hx hb dX2_init_7 rfl (lv_at hl 2 rfl) ?_
  refine r_newT S9 w8 (by decide +kernel) (nI_pos (by omega)) (nI_clamp (by omega)) (by omega) (Nat.le_of_ble_eq_true rfl) (show 0 + 0 + n ≤ 2000 by omega) dX2_init_8 (fun q ws9 H9 fr9 u9 w9 => ?_)
  have naq : a ≠ q := fun z => fr9 _ (by rw [← z]; exact f8)
  have f9 : hp ws9 a (.inr (1, [.int (nI n), .int k, .null])) := u9.keep naq f8
  refine r_putF S9 w9 hnm f9 rfl (by decide +kernel) tyX2_ok nmX2 2 (by decide) (by decide +kernel) rfl rfl rfl rfl (Nat.le_of_ble_eq_true rfl) dX2_init_11 (fun ws1 H1 lc1 u1 w1 => ?_)
  have f1 : hp ws1 a (.inr (1, [.int (nI n), .int k, .ref q])) := u1.1
  exact ew_v S9 hr hlk w1 (⟨q, u1.1, u1.keep naq.symm u9.1, naq, fun e he => fr9 e ((p8.2 q e naq.symm).mpr he), fun c9 e h1 h2 => (u1.2 c9 e h1).trans ((u9.2 c9 e h2).trans (p8.2 c9 e h1))⟩) dX2_init_14 (by decide) (show 0 + 0 + n ≤ 2000 by omega)

set_option maxHeartbeats 4000000 in
set_option maxRecDepth 100000 in
theorem c_newThing (l : Launch) {G : Gt} {ws : va_W} (sz : Nat) {x sh li : Nat} {ad ar : Nat → Nat} {S : St} (hR : RpX G x sh li ad ar S ws) (hI : Inv S) (k : Nat) (hk : 7 ≤ k) (hk8 : k ≤ 8) (v : Int32) : Met l yX5_newThing wsX5_newThing ({ frames := 3, cells := 1, slots := 2, locals := 55 } : Room) (Pw G [.ref x, .int (nI k), .int v] ws sz) (va_Qi (fun (r : Int32) (u : va_W) => r = (sp_thing S k v).1 ∧ ∃ ad2 ar2, RpX G x sh li ad2 ar2 (sp_thing S k v).2 u) (Bw G ws sz) (va_A ws sz)) 1 2 (va_A ws sz) := by
  refine Met_pw (cc := cX5_newThing) (maxL := 4) (ret := (some .int)) (by decide) rfl (Nat.le_of_ble_eq_true rfl) ?_
  intro p e s m below meth c ls hsz S9 hr hlk hnm w hl
  subst hsz
  replace S9 : CallFix p m c cX5_newThing 4 s _ wsX5_newThing RX5 := S9
  have hx := S9.1
  have hb := S9.2.1
  have hown := S9.2.2.2.1
  have hts := S9.2.2.2.2
  replace hl : lv_has ls 4 [(0, .ref x), (1, .int (nI k)), (2, .int v)] := hl
  refine lv_aload_n hx hb dX5_newThing_0 rfl (lv_at hl 0 rfl) ?_
  refine kx_low S9 w hR gX5_newThing_X5_lowestEmptyPlace hl.1 (Nat.le_of_ble_eq_true rfl) dX5_newThing_1 ⟨Nat.le_of_ble_eq_true rfl, Nat.le_of_ble_eq_true rfl⟩ ⟨Nat.le_of_ble_eq_true rfl, Nat.le_of_ble_eq_true rfl⟩ (fun v7 e7 => ?_)
  refine lv_istore_n (lv' := [(3, .int v7), (0, .ref x), (1, .int (nI k)), (2, .int v)]) hx hb dX5_newThing_4 rfl hl (by decide) rfl (fun ls hl => ?_)
  refine lv_iload_n hx hb dX5_newThing_5 rfl (lv_at hl 0 rfl) ?_
  refine lv_iconst (v := (-1)) hx hb dX5_newThing_6 (by decide) ?_
  refine lv_icmp_eq (tgt := 18) hx hb dX5_newThing_7 (by decide) (fun c_7 => ?_) (fun c_7 => ?_)
  · refine lv_bipush (v := (-2)) hx hb dX5_newThing_18 (by decide) ?_
    exact ew_i S9 hr hlk w (by cases hq : lowE S with | none => (rw [show sp_thing S k v = (-2, S) from by simp only [sp_thing, hq]]; exact ⟨rfl, ad, ar, hR⟩) | some p4 => (have hp5 := lowE_lt hq; rw [hq] at e7; rw [e7] at c_7; exact absurd c_7 (pI_ne hp5.1))) dX5_newThing_20 (by decide) (by decide)
  · refine lv_aload_n hx hb dX5_newThing_10 rfl (lv_at hl 1 rfl) ?_
    refine r_get (ref := "SpanMover") S9 w hR.1 rfl (by decide +kernel) 3 (by decide) (by decide +kernel) (Or.inl rfl) rfl dX5_newThing_11 ?_
    refine lv_iconst (v := 1) hx hb dX5_newThing_14 (by decide) ?_
    refine lv_icmp_ge (tgt := 21) hx hb dX5_newThing_15 (by decide) (fun c_15 => ?_) (fun c_15 => ?_)
    · refine lv_aload_n hx hb dX5_newThing_21 rfl (lv_at hl 1 rfl) ?_
      refine lv_dup hx hb dX5_newThing_22 rfl ?_
      refine r_get (ref := "SpanMover") S9 w hR.1 rfl (by decide +kernel) 3 (by decide) (by decide +kernel) (Or.inl rfl) rfl dX5_newThing_23 ?_
      refine lv_iconst (v := 1) hx hb dX5_newThing_26 (by decide) ?_
      refine lv_isub hx hb dX5_newThing_27 ?_
      refine lv_topi (fun v1 ev1 => ?_)
      refine r_put (ref := "SpanMover") S9 w hR.1 rfl (by decide +kernel) tyX5_ok nmX5 3 (by decide) (by decide +kernel) (Or.inl rfl) rfl rfl rfl (Nat.le_of_ble_eq_true rfl) dX5_newThing_28 (fun ws8 H8 lc8 u8 w8 => ?_)
      have hR8 := RpX.sc w.2.1 hR u8 (oX_set sh li (s_c S) 1 (by decide) v1)
      replace hR8 : RpX G x sh li ad ar (s_u S, s_o S, s_s S, s_l S, upd (s_c S) 1 v1) ws8 := hR8
      have hx8 : hp ws8 x (.inr (3, [.ref sh, .ref li, .int (s_c S 0), .int v1, .int (s_c S 2), .int (s_c S 3), .int (s_c S 4), .int (s_c S 5), .int (s_c S 6)])) := hR8.1
      refine lv_aload_n hx hb dX5_newThing_31 rfl (lv_at hl 1 rfl) ?_
      refine r_get (ref := "SpanMover") S9 w8 hx8 rfl (by decide +kernel) 0 (by decide) (by decide +kernel) (Or.inl rfl) rfl dX5_newThing_32 ?_
      refine lv_iload_n hx hb dX5_newThing_35 rfl (lv_at hl 0 rfl) ?_
      refine r_new (ci := 2) (fs := [.int 0, .int 0]) S9 w8 rfl (by decide +kernel) tyX4_ok (by decide +kernel) (fun j hj => by rcases (show j = 0 ∨ j = 1 by omega) with rfl | rfl <;> rfl) (Nat.le_of_ble_eq_true rfl) (Nat.le_of_ble_eq_true rfl) dX5_newThing_36 (fun q ws12 H12 fr12 u12 w12 => ?_)
      refine lv_dup hx hb dX5_newThing_39 rfl ?_
      refine lv_iload_n hx hb dX5_newThing_40 rfl (lv_at hl 2 rfl) ?_
      refine lv_iload_n hx hb dX5_newThing_41 rfl (lv_at hl 3 rfl) ?_
      refine kw_iv S9 w12 (c_Thing_init l _ u12.1 (nI k) v) (cwI 2 hts gX5_newThing_X4_init rfl rfl rfl (hts (.initialized RX4) (by decide +kernel)) (hts (.methodLink RX5 131 yX4_init) (by decide +kernel)) (hts (.instanceMethod yX4_init) (by decide +kernel)) rfl (by decide +kernel) ⟨Nat.le_of_ble_eq_true rfl, Nat.le_of_ble_eq_true rfl⟩) rfl hl.1 rfl (Nat.le_of_ble_eq_true rfl) dX5_newThing_42 ⟨Nat.le_of_ble_eq_true rfl, Nat.le_of_ble_eq_true rfl⟩ (fun u13 H13 lc13 p13 w13 => ?_)
      have v13 := hu_again u12 p13
      obtain ⟨p4, hp4⟩ : ∃ p4, lowE S = some p4 := by
        cases hq : lowE S with
        | none => rw [hq] at e7; exact absurd e7 c_7
        | some p4 => exact ⟨p4, rfl⟩
      have hp5 := lowE_lt hp4
      have e8 : v7 = nI p4 := by rw [e7, hp4]; rfl
      have nsh : sh ≠ q := fun z => fr12 _ (by rw [← z]; exact hR8.2.1)
      refine r_aast (r := some q) S9 w13 (v13.keep nsh hR8.2.1) (fun z hz => by cases hz; exact w13.any v13.1 (by decide)) (by rw [e8]; exact vp_in_nI hp5.1 (by decide)) dX5_newThing_45 (fun ws14 H14 lc14 u14 w14 => ?_)
      rw [cl_nI e8 (by omega)] at u14
      have hR14 := RpX.new (o := (k, 0, v, fun _ => 0, fun _ => none)) (a := q) (b := 0) (pl := p4) hI w8.2.1 hR8 fr12 (fun z => absurd (show k ≤ 6 from z) (by omega)) (by rw [o_thg (o := (k, 0, v, fun _ => 0, fun _ => none)) hk]; exact u14.keep nsh.symm v13.1) (fun z => absurd (show k ≤ 3 from z) (by omega)) (fun _ z => absurd (show k ≤ 6 from z) (by omega)) rfl u14.1 (fun c9 e9 h1 _ h3 => (u14.2 c9 e9 h3).trans (v13.2 c9 e9 h1))
      refine lv_iload_n hx hb dX5_newThing_46 rfl (lv_at hl 0 rfl) ?_
      exact ew_i S9 hr hlk w14 (by rw [show sp_thing S k v = (v7, s_new S p4 (k, 0, v, fun _ => 0, fun _ => none) v1) from by rw [e8, ev1]; simp only [sp_thing, hp4]; rw [if_neg (by rw [ii_lt]; rw [ii_le] at c_15; omega)]]; exact ⟨rfl, _, _, hR14⟩) dX5_newThing_47 (by decide) (by decide)
    · refine lv_bipush (v := (-2)) hx hb dX5_newThing_18 (by decide) ?_
      exact ew_i S9 hr hlk w (by cases hq : lowE S with | none => (rw [hq] at e7; exact absurd e7 c_7) | some p4 => (rw [show sp_thing S k v = (-2, S) from by simp only [sp_thing, hq]; rw [if_pos (by rw [ii_lt]; rw [ii_le] at c_15; omega)]]; exact ⟨rfl, ad, ar, hR⟩)) dX5_newThing_20 (by decide) (by decide)

set_option maxHeartbeats 4000000 in
set_option maxRecDepth 100000 in
theorem c_mark (l : Launch) {G : Gt} {ws : va_W} (sz : Nat) {x sh li : Nat} {ad ar : Nat → Nat} {S : St} (hR : RpX G x sh li ad ar S ws) (hI : Inv S) (v : Int32) : Met l yX5_mark wsX5_mark ({ frames := 4, cells := 1, slots := 2, locals := 78 } : Room) (Pw G [.ref x, .int v] ws sz) (va_Qi (fun (r : Int32) (u : va_W) => r = (sp_thing S 7 v).1 ∧ ∃ ad2 ar2, RpX G x sh li ad2 ar2 (sp_thing S 7 v).2 u) (Bw G ws sz) (va_A ws sz)) 1 2 (va_A ws sz) := by
  refine Met_pw (cc := cX5_mark) (maxL := 2) (ret := (some .int)) (by decide) rfl (Nat.le_of_ble_eq_true rfl) ?_
  intro p e s m below meth c ls hsz S9 hr hlk hnm w hl
  subst hsz
  replace S9 : CallFix p m c cX5_mark 2 s _ wsX5_mark RX5 := S9
  have hx := S9.1
  have hb := S9.2.1
  have hown := S9.2.2.2.1
  have hts := S9.2.2.2.2
  replace hl : lv_has ls 2 [(0, .ref x), (1, .int v)] := hl
  refine lv_aload_n hx hb dX5_mark_0 rfl (lv_at hl 0 rfl) ?_
  refine lv_bipush (v := 7) hx hb dX5_mark_1 (by decide) ?_
  refine lv_iload_n hx hb dX5_mark_3 rfl (lv_at hl 1 rfl) ?_
  refine kw_vi S9 w (c_newThing l _ hR hI 7 (by decide) (by decide) v) hR.1 rfl (cwV 2 hts gX5_mark_X5_newThing rfl rfl rfl (by decide +kernel) ⟨Nat.le_of_ble_eq_true rfl, Nat.le_of_ble_eq_true rfl⟩) rfl hl.1 rfl (Nat.le_of_ble_eq_true rfl) dX5_mark_4 ⟨Nat.le_of_ble_eq_true rfl, Nat.le_of_ble_eq_true rfl⟩ (fun v12 u12 H12 lc12 p12 w12 => ?_)
  exact ew_i S9 hr hlk w12 (p12) dX5_mark_7 (by decide) (by decide)

set_option maxHeartbeats 4000000 in
set_option maxRecDepth 100000 in
theorem c_seal (l : Launch) {G : Gt} {ws : va_W} (sz : Nat) {x sh li : Nat} {ad ar : Nat → Nat} {S : St} (hR : RpX G x sh li ad ar S ws) (hI : Inv S) (v : Int32) : Met l yX5_seal wsX5_seal ({ frames := 4, cells := 1, slots := 2, locals := 78 } : Room) (Pw G [.ref x, .int v] ws sz) (va_Qi (fun (r : Int32) (u : va_W) => r = (sp_thing S 8 v).1 ∧ ∃ ad2 ar2, RpX G x sh li ad2 ar2 (sp_thing S 8 v).2 u) (Bw G ws sz) (va_A ws sz)) 1 2 (va_A ws sz) := by
  refine Met_pw (cc := cX5_seal) (maxL := 2) (ret := (some .int)) (by decide) rfl (Nat.le_of_ble_eq_true rfl) ?_
  intro p e s m below meth c ls hsz S9 hr hlk hnm w hl
  subst hsz
  replace S9 : CallFix p m c cX5_seal 2 s _ wsX5_seal RX5 := S9
  have hx := S9.1
  have hb := S9.2.1
  have hown := S9.2.2.2.1
  have hts := S9.2.2.2.2
  replace hl : lv_has ls 2 [(0, .ref x), (1, .int v)] := hl
  refine lv_aload_n hx hb dX5_seal_0 rfl (lv_at hl 0 rfl) ?_
  refine lv_bipush (v := 8) hx hb dX5_seal_1 (by decide) ?_
  refine lv_iload_n hx hb dX5_seal_3 rfl (lv_at hl 1 rfl) ?_
  refine kw_vi S9 w (c_newThing l _ hR hI 8 (by decide) (by decide) v) hR.1 rfl (cwV 2 hts gX5_seal_X5_newThing rfl rfl rfl (by decide +kernel) ⟨Nat.le_of_ble_eq_true rfl, Nat.le_of_ble_eq_true rfl⟩) rfl hl.1 rfl (Nat.le_of_ble_eq_true rfl) dX5_seal_4 ⟨Nat.le_of_ble_eq_true rfl, Nat.le_of_ble_eq_true rfl⟩ (fun v12 u12 H12 lc12 p12 w12 => ?_)
  exact ew_i S9 hr hlk w12 (p12) dX5_seal_7 (by decide) (by decide)

set_option maxHeartbeats 4000000 in
set_option maxRecDepth 100000 in
theorem c_row (l : Launch) {G : Gt} {ws : va_W} (sz : Nat) {x sh li : Nat} {ad ar : Nat → Nat} {S : St} (hR : RpX G x sh li ad ar S ws) (hI : Inv S) (k n : Int32) : Met l yX5_row wsX5_row ({ frames := 4, cells := 2, slots := 2005, locals := 77 } : Room) (Pw G [.ref x, .int k, .int n] ws sz) (va_Qi (fun (r : Int32) (u : va_W) => r = (sp_row S k n).1 ∧ ∃ ad2 ar2, RpX G x sh li ad2 ar2 (sp_row S k n).2 u) (Bw G ws sz) (va_A ws sz)) 2 2005 (va_A ws sz) := by
  refine Met_pw (cc := cX5_row) (maxL := 4) (ret := (some .int)) (by decide) rfl (Nat.le_of_ble_eq_true rfl) ?_
  intro p e s m below meth c ls hsz S9 hr hlk hnm w hl
  subst hsz
  replace S9 : CallFix p m c cX5_row 4 s _ wsX5_row RX5 := S9
  have hx := S9.1
  have hb := S9.2.1
  have hown := S9.2.2.2.1
  have hts := S9.2.2.2.2
  replace hl : lv_has ls 4 [(0, .ref x), (1, .int k), (2, .int n)] := hl
  refine lv_iload_n hx hb dX5_row_0 rfl (lv_at hl 1 rfl) ?_
  refine lv_if_lt (tgt := 10) hx hb dX5_row_1 (by decide) (fun c_1 => ?_) (fun c_1 => ?_)
  · refine lv_iconst (v := (-1)) hx hb dX5_row_10 (by decide) ?_
    exact ew_i S9 hr hlk w (by rw [show sp_row S k n = (-1, S) from by unfold sp_row; rw [if_pos c_1]]; exact ⟨rfl, ad, ar, hR⟩) dX5_row_11 (by decide) (by decide)
  · refine lv_iload_n hx hb dX5_row_4 rfl (lv_at hl 1 rfl) ?_
    refine lv_bipush (v := 6) hx hb dX5_row_5 (by decide) ?_
    refine lv_icmp_le (tgt := 12) hx hb dX5_row_7 (by decide) (fun c_7 => ?_) (fun c_7 => ?_)
    · refine lv_aload_n hx hb dX5_row_12 rfl (lv_at hl 0 rfl) ?_
      refine kx_low S9 w hR gX5_row_X5_lowestEmptyPlace hl.1 (Nat.le_of_ble_eq_true rfl) dX5_row_13 ⟨Nat.le_of_ble_eq_true rfl, Nat.le_of_ble_eq_true rfl⟩ ⟨Nat.le_of_ble_eq_true rfl, Nat.le_of_ble_eq_true rfl⟩ (fun v7 e7 => ?_)
      refine lv_istore_n (lv' := [(3, .int v7), (0, .ref x), (1, .int k), (2, .int n)]) hx hb dX5_row_16 rfl hl (by decide) rfl (fun ls hl => ?_)
      refine lv_iload_n hx hb dX5_row_17 rfl (lv_at hl 3 rfl) ?_
      refine lv_sipush (v := 2000) hx hb dX5_row_18 (by decide) ?_
      refine lv_icmp_gt (tgt := 39) hx hb dX5_row_21 (by decide) (fun c_21 => ?_) (fun c_21 => ?_)
      · refine lv_bipush (v := (-2)) hx hb dX5_row_39 (by decide) ?_
        exact ew_i S9 hr hlk w (by rw [show sp_row S k n = (-2, S) from by unfold sp_row; rw [if_neg c_1, if_neg (by rw [ii_lt]; rw [ii_le] at c_7; omega), if_pos c_21]]; exact ⟨rfl, ad, ar, hR⟩) dX5_row_41 (by decide) (by decide)
      · refine lv_iload_n hx hb dX5_row_24 rfl (lv_at hl 0 rfl) ?_
        refine lv_iconst (v := (-1)) hx hb dX5_row_25 (by decide) ?_
        refine lv_icmp_eq (tgt := 39) hx hb dX5_row_26 (by decide) (fun c_26 => ?_) (fun c_26 => ?_)
        · refine lv_bipush (v := (-2)) hx hb dX5_row_39 (by decide) ?_
          exact ew_i S9 hr hlk w (by rw [show sp_row S k n = (-2, S) from by cases hq : lowE S with | none => (unfold sp_row; rw [if_neg c_1, if_neg (by rw [ii_lt]; rw [ii_le] at c_7; omega), if_neg c_21]; simp only [hq]) | some p4 => (have hp5 := lowE_lt hq; rw [hq] at e7; rw [e7] at c_26; exact absurd c_26 (pI_ne hp5.1))]; exact ⟨rfl, ad, ar, hR⟩) dX5_row_41 (by decide) (by decide)
        · refine lv_aload_n hx hb dX5_row_29 rfl (lv_at hl 1 rfl) ?_
          refine r_get (ref := "SpanMover") S9 w hR.1 rfl (by decide +kernel) 3 (by decide) (by decide +kernel) (Or.inl rfl) rfl dX5_row_30 ?_
          refine lv_iload_n hx hb dX5_row_33 rfl (lv_at hl 3 rfl) ?_
          refine lv_iconst (v := 1) hx hb dX5_row_34 (by decide) ?_
          refine lv_iadd hx hb dX5_row_35 ?_
          refine lv_topi (fun v1 ev1 => ?_)
          refine lv_icmp_ge (tgt := 42) hx hb dX5_row_36 (by decide) (fun c_36 => ?_) (fun c_36 => ?_)
          · refine lv_iload_n hx hb dX5_row_42 rfl (lv_at hl 3 rfl) ?_
            refine lv_if_ge (tgt := 49) hx hb dX5_row_43 (by decide) (fun c_43 => ?_) (fun c_43 => ?_)
            · refine lv_aload_n hx hb dX5_row_49 rfl (lv_at hl 1 rfl) ?_
              refine lv_dup hx hb dX5_row_50 rfl ?_
              refine r_get (ref := "SpanMover") S9 w hR.1 rfl (by decide +kernel) 3 (by decide) (by decide +kernel) (Or.inl rfl) rfl dX5_row_51 ?_
              refine lv_iload_n hx hb dX5_row_54 rfl (lv_at hl 3 rfl) ?_
              refine lv_iconst (v := 1) hx hb dX5_row_55 (by decide) ?_
              refine lv_iadd hx hb dX5_row_56 ?_
              refine lv_topi (fun v2 ev2 => ?_)
              refine lv_isub hx hb dX5_row_57 ?_
              refine lv_topi (fun v3 ev3 => ?_)
              refine r_put (ref := "SpanMover") S9 w hR.1 rfl (by decide +kernel) tyX5_ok nmX5 3 (by decide) (by decide +kernel) (Or.inl rfl) rfl rfl rfl (Nat.le_of_ble_eq_true rfl) dX5_row_58 (fun ws8 H8 lc8 u8 w8 => ?_)
              have hR8 := RpX.sc w.2.1 hR u8 (oX_set sh li (s_c S) 1 (by decide) v3)
              replace hR8 : RpX G x sh li ad ar (s_u S, s_o S, s_s S, s_l S, upd (s_c S) 1 v3) ws8 := hR8
              have hx8 : hp ws8 x (.inr (3, [.ref sh, .ref li, .int (s_c S 0), .int v3, .int (s_c S 2), .int (s_c S 3), .int (s_c S 4), .int (s_c S 5), .int (s_c S 6)])) := hR8.1
              obtain ⟨k', hk', rfl⟩ : ∃ k' : Nat, k' < 2 ^ 31 ∧ k = nI k' := nI_of c_1
              have hk6 : k' ≤ 6 := (nI_leI (b := 6) hk' (by decide)).mp c_7
              obtain ⟨n', hn', rfl⟩ : ∃ n' : Nat, n' < 2 ^ 31 ∧ n = nI n' := nI_of (by rw [ii_lt]; rw [ii_le] at c_43; omega)
              have hn2 : n' ≤ 2000 := by
                have : ¬ 2000 < n' := fun q => c_21 ((nI_ltI (a := 2000) (by decide) hn').mpr q)
                omega
              refine lv_aload_n hx hb dX5_row_61 rfl (lv_at hl 1 rfl) ?_
              refine r_get (ref := "SpanMover") S9 w8 hx8 rfl (by decide +kernel) 0 (by decide) (by decide +kernel) (Or.inl rfl) rfl dX5_row_62 ?_
              refine lv_iload_n hx hb dX5_row_65 rfl (lv_at hl 0 rfl) ?_
              refine lv_iload_n hx hb dX5_row_66 rfl (lv_at hl 2 rfl) ?_
              refine lv_iconst (v := 3) hx hb dX5_row_67 (by decide) ?_
              refine lv_icmp_gt (tgt := 83) hx hb dX5_row_68 (by decide) (fun c_68 => ?_) (fun c_68 => ?_)
              · refine r_new (ci := 1) (fs := [.int 0, .int 0, .null]) S9 w8 rfl (by decide +kernel) tyX2_ok (by decide +kernel) (fun j hj => by rcases (show j = 0 ∨ j = 1 ∨ j = 2 by omega) with rfl | rfl | rfl <;> rfl) (Nat.le_of_ble_eq_true rfl) (Nat.le_of_ble_eq_true rfl) dX5_row_83 (fun q ws12 H12 fr12 u12 w12 => ?_)
                refine lv_dup hx hb dX5_row_86 rfl ?_
                refine lv_iload_n hx hb dX5_row_87 rfl (lv_at hl 2 rfl) ?_
                refine lv_iload_n hx hb dX5_row_88 rfl (lv_at hl 3 rfl) ?_
                refine kw_iv S9 w12 (c_init_1 l _ u12.1 (nI k') n' hn2) (cwI 2 hts gX5_row_X2_init rfl rfl rfl (hts (.initialized RX2) (by decide +kernel)) (hts (.methodLink RX5 53 yX2_init) (by decide +kernel)) (hts (.instanceMethod yX2_init) (by decide +kernel)) rfl (by decide +kernel) ⟨Nat.le_of_ble_eq_true rfl, Nat.le_of_ble_eq_true rfl⟩) rfl hl.1 rfl (Nat.le_of_ble_eq_true rfl) dX5_row_89 ⟨Nat.le_of_ble_eq_true rfl, Nat.le_of_ble_eq_true rfl⟩ (fun u13 H13 lc13 p13 w13 => ?_)
                obtain ⟨b, b1, b2, b3, b4, b5⟩ := p13
                obtain ⟨p4, hp4⟩ : ∃ p4, lowE S = some p4 := by
                  cases hq : lowE S with
                  | none => rw [hq] at e7; exact absurd e7 c_26
                  | some p4 => exact ⟨p4, rfl⟩
                have hp5 := lowE_lt hp4
                have e8 : v7 = nI p4 := by rw [e7, hp4]; rfl
                have nsh : sh ≠ q := fun z => fr12 _ (by rw [← z]; exact hR8.2.1)
                have nbs : sh ≠ b := fun z => b4 _ (by rw [← z]; exact u12.keep nsh hR8.2.1)
                have fb : ∀ e, ¬ hp ws8 b e := fun e9 h9 => b4 e9 (u12.keep b3.symm h9)
                refine r_aast (r := some q) S9 w13 ((b5 sh _ nsh nbs).mpr (u12.keep nsh hR8.2.1)) (fun z hz => by cases hz; exact w13.any b1 (by decide)) (by rw [e8]; exact vp_in_nI hp5.1 (by decide)) dX5_row_92 (fun ws14 H14 lc14 u14 w14 => ?_)
                rw [cl_nI e8 (by omega)] at u14
                have hk3 : 4 ≤ k' := by have := (nI_ltI (a := 3) (by decide) hk').mp c_68; omega
                have hR14 := RpX.new (o := (k', n', 0, fun _ => 0, fun _ => none)) (a := q) (b := b) (pl := p4) hI w8.2.1 hR8 fr12 (fun _ => ⟨b3, fb⟩) (by rw [o_obj (o := (k', n', 0, fun _ => 0, fun _ => none)) hk3 hk6]; exact u14.keep nsh.symm b1) (fun z => absurd (show k' ≤ 3 from z) (by omega)) (fun _ _ => u14.keep nbs.symm b2) rfl u14.1 (fun c9 e9 h1 h2 h3 => (u14.2 c9 e9 h3).trans ((b5 c9 e9 h1 (h2 hk6)).trans (u12.2 c9 e9 h1)))
                refine lv_iload_n hx hb dX5_row_93 rfl (lv_at hl 0 rfl) ?_
                exact ew_i S9 hr hlk w14 (by rw [show sp_row S (nI k') (nI n') = (v7, s_new S p4 (k', n', 0, fun _ => 0, fun _ => none) v3) from by unfold sp_row; rw [if_neg c_1, if_neg (by rw [ii_lt]; rw [ii_le] at c_7; omega), if_neg c_21]; simp only [hp4]; rw [if_neg (by rw [ii_lt]; rw [ii_le, ev1] at c_36; omega), if_neg (by rw [ii_lt]; rw [ii_le] at c_43; omega), e8, nI_clamp hk', nI_clamp hn', ev3, ev2]]; exact ⟨rfl, _, _, hR14⟩) dX5_row_94 (by decide) (by decide)
              · refine r_new (ci := 0) (fs := [.int 0, .int 0, .null, .int 0, .long 0]) S9 w8 rfl (by decide +kernel) tyX1_ok (by decide +kernel) (fun j hj => by rcases (show j = 0 ∨ j = 1 ∨ j = 2 ∨ j = 3 ∨ j = 4 by omega) with rfl | rfl | rfl | rfl | rfl <;> rfl) (Nat.le_of_ble_eq_true rfl) (Nat.le_of_ble_eq_true rfl) dX5_row_71 (fun q ws12 H12 fr12 u12 w12 => ?_)
                refine lv_dup hx hb dX5_row_74 rfl ?_
                refine lv_iload_n hx hb dX5_row_75 rfl (lv_at hl 2 rfl) ?_
                refine lv_iload_n hx hb dX5_row_76 rfl (lv_at hl 3 rfl) ?_
                refine kw_iv S9 w12 (c_init_0 l _ u12.1 (nI k') n' hn2) (cwI 2 hts gX5_row_X1_init rfl rfl rfl (hts (.initialized RX1) (by decide +kernel)) (hts (.methodLink RX5 48 yX1_init) (by decide +kernel)) (hts (.instanceMethod yX1_init) (by decide +kernel)) rfl (by decide +kernel) ⟨Nat.le_of_ble_eq_true rfl, Nat.le_of_ble_eq_true rfl⟩) rfl hl.1 rfl (Nat.le_of_ble_eq_true rfl) dX5_row_77 ⟨Nat.le_of_ble_eq_true rfl, Nat.le_of_ble_eq_true rfl⟩ (fun u13 H13 lc13 p13 w13 => ?_)
                obtain ⟨b, b1, b2, b3, b4, b5⟩ := p13
                refine lv_goto (tgt := 92) hx hb dX5_row_80 (by decide) ?_
                obtain ⟨p4, hp4⟩ : ∃ p4, lowE S = some p4 := by
                  cases hq : lowE S with
                  | none => rw [hq] at e7; exact absurd e7 c_26
                  | some p4 => exact ⟨p4, rfl⟩
                have hp5 := lowE_lt hp4
                have e8 : v7 = nI p4 := by rw [e7, hp4]; rfl
                have nsh : sh ≠ q := fun z => fr12 _ (by rw [← z]; exact hR8.2.1)
                have nbs : sh ≠ b := fun z => b4 _ (by rw [← z]; exact u12.keep nsh hR8.2.1)
                have fb : ∀ e, ¬ hp ws8 b e := fun e9 h9 => b4 e9 (u12.keep b3.symm h9)
                refine r_aast (r := some q) S9 w13 ((b5 sh _ nsh nbs).mpr (u12.keep nsh hR8.2.1)) (fun z hz => by cases hz; exact w13.any b1 (by decide)) (by rw [e8]; exact vp_in_nI hp5.1 (by decide)) dX5_row_92 (fun ws14 H14 lc14 u14 w14 => ?_)
                rw [cl_nI e8 (by omega)] at u14
                have hk3 : k' ≤ 3 := by have : ¬ 3 < k' := fun q => c_68 ((nI_ltI (a := 3) (by decide) hk').mpr q); omega
                have hR14 := RpX.new (o := (k', n', 0, fun _ => 0, fun _ => none)) (a := q) (b := b) (pl := p4) hI w8.2.1 hR8 fr12 (fun _ => ⟨b3, fb⟩) (by rw [o_num (o := (k', n', 0, fun _ => 0, fun _ => none)) hk3]; exact u14.keep nsh.symm b1) (fun _ => u14.keep nbs.symm b2) (fun z => absurd (show 4 ≤ k' from z) (by omega)) rfl u14.1 (fun c9 e9 h1 h2 h3 => (u14.2 c9 e9 h3).trans ((b5 c9 e9 h1 (h2 hk6)).trans (u12.2 c9 e9 h1)))
                refine lv_iload_n hx hb dX5_row_93 rfl (lv_at hl 0 rfl) ?_
                exact ew_i S9 hr hlk w14 (by rw [show sp_row S (nI k') (nI n') = (v7, s_new S p4 (k', n', 0, fun _ => 0, fun _ => none) v3) from by unfold sp_row; rw [if_neg c_1, if_neg (by rw [ii_lt]; rw [ii_le] at c_7; omega), if_neg c_21]; simp only [hp4]; rw [if_neg (by rw [ii_lt]; rw [ii_le, ev1] at c_36; omega), if_neg (by rw [ii_lt]; rw [ii_le] at c_43; omega), e8, nI_clamp hk', nI_clamp hn', ev3, ev2]]; exact ⟨rfl, _, _, hR14⟩) dX5_row_94 (by decide) (by decide)
            · refine lv_bipush (v := (-3)) hx hb dX5_row_46 (by decide) ?_
              exact ew_i S9 hr hlk w (by rw [show sp_row S k n = (-3, S) from by cases hq : lowE S with | none => (rw [hq] at e7; exact absurd e7 c_26) | some p4 => (unfold sp_row; rw [if_neg c_1, if_neg (by rw [ii_lt]; rw [ii_le] at c_7; omega), if_neg c_21]; simp only [hq]; rw [if_neg (by rw [ii_lt]; rw [ii_le, ev1] at c_36; omega), if_pos (by rw [ii_lt]; rw [ii_le] at c_43; omega)])]; exact ⟨rfl, ad, ar, hR⟩) dX5_row_48 (by decide) (by decide)
          · refine lv_bipush (v := (-2)) hx hb dX5_row_39 (by decide) ?_
            exact ew_i S9 hr hlk w (by rw [show sp_row S k n = (-2, S) from by cases hq : lowE S with | none => (rw [hq] at e7; exact absurd e7 c_26) | some p4 => (unfold sp_row; rw [if_neg c_1, if_neg (by rw [ii_lt]; rw [ii_le] at c_7; omega), if_neg c_21]; simp only [hq]; rw [if_pos (by rw [ii_lt]; rw [ii_le, ev1] at c_36; omega)])]; exact ⟨rfl, ad, ar, hR⟩) dX5_row_41 (by decide) (by decide)
    · refine lv_iconst (v := (-1)) hx hb dX5_row_10 (by decide) ?_
      exact ew_i S9 hr hlk w (by rw [show sp_row S k n = (-1, S) from by unfold sp_row; rw [if_neg c_1, if_pos (by rw [ii_lt]; rw [ii_le] at c_7; omega)]]; exact ⟨rfl, ad, ar, hR⟩) dX5_row_11 (by decide) (by decide)
