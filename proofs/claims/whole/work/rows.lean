section
-- ===== PART A: goes FIRST, ahead of the names: the tables' words, and 'selects' of the private methods out of them =====
/-- a private method of a class that the tables say can be made, by its rows of tables_1 -/
def lw_okq (q : MethodName × Nat) : Prop := (q.1.cls ≠ "java/lang/invoke/MethodHandle" ∧ q.1.cls ≠ "java/lang/invoke/VarHandle") ∧ Cond.instantiable q.1.cls q.2 ∈ tables_1 ∧ Cond.privateMethod q.1 ∈ tables_1 ∧ Cond.instanceMethod q.1 ∈ tables_1
theorem lw_p0 : lw_okq (⟨"SpanMover", "lowestEmptyPlace", "()I"⟩, 9) := ⟨⟨by decide +kernel, by decide +kernel⟩, List.mem_of_getElem? (i := 10) (by decide +kernel), List.mem_of_getElem? (i := 54) (by decide +kernel), List.mem_of_getElem? (i := 55) (by decide +kernel)⟩
theorem lw_p1 : lw_okq (⟨"SpanMover", "newThing", "(II)I"⟩, 9) := ⟨⟨by decide +kernel, by decide +kernel⟩, List.mem_of_getElem? (i := 10) (by decide +kernel), List.mem_of_getElem? (i := 115) (by decide +kernel), List.mem_of_getElem? (i := 116) (by decide +kernel)⟩
theorem lw_p2 : lw_okq (⟨"SpanMover", "itemAt", "(I)LSpanMover$Item;"⟩, 9) := ⟨⟨by decide +kernel, by decide +kernel⟩, List.mem_of_getElem? (i := 10) (by decide +kernel), List.mem_of_getElem? (i := 139) (by decide +kernel), List.mem_of_getElem? (i := 140) (by decide +kernel)⟩
theorem lw_p3 : lw_okq (⟨"SpanMover$NumberRow", "narrowed", "(J)J"⟩, 5) := ⟨⟨by decide +kernel, by decide +kernel⟩, List.mem_of_getElem? (i := 58) (by decide +kernel), List.mem_of_getElem? (i := 165) (by decide +kernel), List.mem_of_getElem? (i := 166) (by decide +kernel)⟩
theorem lw_p4 : lw_okq (⟨"SpanMover", "innerNumber", "(LSpanMover$Item;I)J"⟩, 9) := ⟨⟨by decide +kernel, by decide +kernel⟩, List.mem_of_getElem? (i := 10) (by decide +kernel), List.mem_of_getElem? (i := 203) (by decide +kernel), List.mem_of_getElem? (i := 204) (by decide +kernel)⟩
theorem lw_p5 : lw_okq (⟨"SpanMover", "standLifted", "(LSpanMover$Item;)I"⟩, 9) := ⟨⟨by decide +kernel, by decide +kernel⟩, List.mem_of_getElem? (i := 10) (by decide +kernel), List.mem_of_getElem? (i := 219) (by decide +kernel), List.mem_of_getElem? (i := 220) (by decide +kernel)⟩
theorem lw_p6 : lw_okq (⟨"SpanMover", "doMove", "(IIIII)I"⟩, 9) := ⟨⟨by decide +kernel, by decide +kernel⟩, List.mem_of_getElem? (i := 10) (by decide +kernel), List.mem_of_getElem? (i := 227) (by decide +kernel), List.mem_of_getElem? (i := 228) (by decide +kernel)⟩
theorem lw_p7 : lw_okq (⟨"SpanMover", "moveSpan", "(LSpanMover$Row;ILSpanMover$Row;II)I"⟩, 9) := ⟨⟨by decide +kernel, by decide +kernel⟩, List.mem_of_getElem? (i := 10) (by decide +kernel), List.mem_of_getElem? (i := 234) (by decide +kernel), List.mem_of_getElem? (i := 235) (by decide +kernel)⟩
theorem lw_p8 : lw_okq (⟨"SpanMover", "doPlanned", "(I)I"⟩, 9) := ⟨⟨by decide +kernel, by decide +kernel⟩, List.mem_of_getElem? (i := 10) (by decide +kernel), List.mem_of_getElem? (i := 269) (by decide +kernel), List.mem_of_getElem? (i := 270) (by decide +kernel)⟩
theorem lw_p9 : lw_okq (⟨"SpanMover", "takenPlaces", "()I"⟩, 9) := ⟨⟨by decide +kernel, by decide +kernel⟩, List.mem_of_getElem? (i := 10) (by decide +kernel), List.mem_of_getElem? (i := 310) (by decide +kernel), List.mem_of_getElem? (i := 311) (by decide +kernel)⟩
theorem lw_p10 : lw_okq (⟨"SpanMoverModel", "lowestEmpty", "()I"⟩, 10) := ⟨⟨by decide +kernel, by decide +kernel⟩, List.mem_of_getElem? (i := 314) (by decide +kernel), List.mem_of_getElem? (i := 356) (by decide +kernel), List.mem_of_getElem? (i := 357) (by decide +kernel)⟩
theorem lw_p11 : lw_okq (⟨"SpanMoverModel", "stand", "(III)I"⟩, 10) := ⟨⟨by decide +kernel, by decide +kernel⟩, List.mem_of_getElem? (i := 314) (by decide +kernel), List.mem_of_getElem? (i := 360) (by decide +kernel), List.mem_of_getElem? (i := 361) (by decide +kernel)⟩
theorem lw_p12 : lw_okq (⟨"SpanMoverModel", "thing", "(II)I"⟩, 10) := ⟨⟨by decide +kernel, by decide +kernel⟩, List.mem_of_getElem? (i := 314) (by decide +kernel), List.mem_of_getElem? (i := 369) (by decide +kernel), List.mem_of_getElem? (i := 370) (by decide +kernel)⟩
theorem lw_p13 : lw_okq (⟨"SpanMoverModel", "in", "(I)I"⟩, 10) := ⟨⟨by decide +kernel, by decide +kernel⟩, List.mem_of_getElem? (i := 314) (by decide +kernel), List.mem_of_getElem? (i := 381) (by decide +kernel), List.mem_of_getElem? (i := 382) (by decide +kernel)⟩
theorem lw_p14 : lw_okq (⟨"SpanMoverModel", "kind", "(I)I"⟩, 10) := ⟨⟨by decide +kernel, by decide +kernel⟩, List.mem_of_getElem? (i := 314) (by decide +kernel), List.mem_of_getElem? (i := 388) (by decide +kernel), List.mem_of_getElem? (i := 389) (by decide +kernel)⟩
theorem lw_p15 : lw_okq (⟨"SpanMoverModel", "isThing", "(I)Z"⟩, 10) := ⟨⟨by decide +kernel, by decide +kernel⟩, List.mem_of_getElem? (i := 314) (by decide +kernel), List.mem_of_getElem? (i := 396) (by decide +kernel), List.mem_of_getElem? (i := 397) (by decide +kernel)⟩
def lw_privs_1 : List (MethodName × Nat) := [(⟨"SpanMover", "lowestEmptyPlace", "()I"⟩, 9), (⟨"SpanMover", "newThing", "(II)I"⟩, 9), (⟨"SpanMover", "itemAt", "(I)LSpanMover$Item;"⟩, 9), (⟨"SpanMover$NumberRow", "narrowed", "(J)J"⟩, 5), (⟨"SpanMover", "innerNumber", "(LSpanMover$Item;I)J"⟩, 9), (⟨"SpanMover", "standLifted", "(LSpanMover$Item;)I"⟩, 9), (⟨"SpanMover", "doMove", "(IIIII)I"⟩, 9), (⟨"SpanMover", "moveSpan", "(LSpanMover$Row;ILSpanMover$Row;II)I"⟩, 9), (⟨"SpanMover", "doPlanned", "(I)I"⟩, 9), (⟨"SpanMover", "takenPlaces", "()I"⟩, 9), (⟨"SpanMoverModel", "lowestEmpty", "()I"⟩, 10), (⟨"SpanMoverModel", "stand", "(III)I"⟩, 10), (⟨"SpanMoverModel", "thing", "(II)I"⟩, 10), (⟨"SpanMoverModel", "in", "(I)I"⟩, 10), (⟨"SpanMoverModel", "kind", "(I)I"⟩, 10), (⟨"SpanMoverModel", "isThing", "(I)Z"⟩, 10)]
theorem lw_r1 : ∀ q ∈ lw_privs_1, lw_okq q := List.forall_mem_cons.mpr ⟨lw_p0, List.forall_mem_cons.mpr ⟨lw_p1, List.forall_mem_cons.mpr ⟨lw_p2, List.forall_mem_cons.mpr ⟨lw_p3, List.forall_mem_cons.mpr ⟨lw_p4, List.forall_mem_cons.mpr ⟨lw_p5, List.forall_mem_cons.mpr ⟨lw_p6, List.forall_mem_cons.mpr ⟨lw_p7, List.forall_mem_cons.mpr ⟨lw_p8, List.forall_mem_cons.mpr ⟨lw_p9, List.forall_mem_cons.mpr ⟨lw_p10, List.forall_mem_cons.mpr ⟨lw_p11, List.forall_mem_cons.mpr ⟨lw_p12, List.forall_mem_cons.mpr ⟨lw_p13, List.forall_mem_cons.mpr ⟨lw_p14, List.forall_mem_cons.mpr ⟨lw_p15, fun _ h => absurd h List.not_mem_nil⟩⟩⟩⟩⟩⟩⟩⟩⟩⟩⟩⟩⟩⟩⟩⟩
theorem lw_p16 : lw_okq (⟨"SpanMoverModel", "low", "(I)I"⟩, 10) := ⟨⟨by decide +kernel, by decide +kernel⟩, List.mem_of_getElem? (i := 314) (by decide +kernel), List.mem_of_getElem? (i := 400) (by decide +kernel), List.mem_of_getElem? (i := 401) (by decide +kernel)⟩
theorem lw_p17 : lw_okq (⟨"SpanMoverModel", "isOfObjects", "(I)Z"⟩, 10) := ⟨⟨by decide +kernel, by decide +kernel⟩, List.mem_of_getElem? (i := 314) (by decide +kernel), List.mem_of_getElem? (i := 408) (by decide +kernel), List.mem_of_getElem? (i := 409) (by decide +kernel)⟩
theorem lw_p18 : lw_okq (⟨"SpanMoverModel", "isElement", "(II)Z"⟩, 10) := ⟨⟨by decide +kernel, by decide +kernel⟩, List.mem_of_getElem? (i := 314) (by decide +kernel), List.mem_of_getElem? (i := 412) (by decide +kernel), List.mem_of_getElem? (i := 413) (by decide +kernel)⟩
theorem lw_p19 : lw_okq (⟨"SpanMoverModel", "fits", "(II)Z"⟩, 10) := ⟨⟨by decide +kernel, by decide +kernel⟩, List.mem_of_getElem? (i := 314) (by decide +kernel), List.mem_of_getElem? (i := 431) (by decide +kernel), List.mem_of_getElem? (i := 432) (by decide +kernel)⟩
theorem lw_p20 : lw_okq (⟨"SpanMoverModel", "refusal", "(II)I"⟩, 10) := ⟨⟨by decide +kernel, by decide +kernel⟩, List.mem_of_getElem? (i := 314) (by decide +kernel), List.mem_of_getElem? (i := 439) (by decide +kernel), List.mem_of_getElem? (i := 440) (by decide +kernel)⟩
theorem lw_p21 : lw_okq (⟨"SpanMoverModel", "told", "(II)J"⟩, 10) := ⟨⟨by decide +kernel, by decide +kernel⟩, List.mem_of_getElem? (i := 314) (by decide +kernel), List.mem_of_getElem? (i := 443) (by decide +kernel), List.mem_of_getElem? (i := 444) (by decide +kernel)⟩
theorem lw_p22 : lw_okq (⟨"SpanMoverModel", "object", "(II)I"⟩, 10) := ⟨⟨by decide +kernel, by decide +kernel⟩, List.mem_of_getElem? (i := 314) (by decide +kernel), List.mem_of_getElem? (i := 447) (by decide +kernel), List.mem_of_getElem? (i := 448) (by decide +kernel)⟩
theorem lw_p23 : lw_okq (⟨"SpanMoverModel", "bars", "(IIIII)I"⟩, 10) := ⟨⟨by decide +kernel, by decide +kernel⟩, List.mem_of_getElem? (i := 314) (by decide +kernel), List.mem_of_getElem? (i := 468) (by decide +kernel), List.mem_of_getElem? (i := 469) (by decide +kernel)⟩
theorem lw_p24 : lw_okq (⟨"SpanMoverModel", "summed", "(I)J"⟩, 10) := ⟨⟨by decide +kernel, by decide +kernel⟩, List.mem_of_getElem? (i := 314) (by decide +kernel), List.mem_of_getElem? (i := 502) (by decide +kernel), List.mem_of_getElem? (i := 503) (by decide +kernel)⟩
theorem lw_p25 : lw_okq (⟨"SpanMoverModel", "share", "(I)J"⟩, 10) := ⟨⟨by decide +kernel, by decide +kernel⟩, List.mem_of_getElem? (i := 314) (by decide +kernel), List.mem_of_getElem? (i := 506) (by decide +kernel), List.mem_of_getElem? (i := 507) (by decide +kernel)⟩
def lw_privs_2 : List (MethodName × Nat) := [(⟨"SpanMoverModel", "low", "(I)I"⟩, 10), (⟨"SpanMoverModel", "isOfObjects", "(I)Z"⟩, 10), (⟨"SpanMoverModel", "isElement", "(II)Z"⟩, 10), (⟨"SpanMoverModel", "fits", "(II)Z"⟩, 10), (⟨"SpanMoverModel", "refusal", "(II)I"⟩, 10), (⟨"SpanMoverModel", "told", "(II)J"⟩, 10), (⟨"SpanMoverModel", "object", "(II)I"⟩, 10), (⟨"SpanMoverModel", "bars", "(IIIII)I"⟩, 10), (⟨"SpanMoverModel", "summed", "(I)J"⟩, 10), (⟨"SpanMoverModel", "share", "(I)J"⟩, 10)]
theorem lw_r2 : ∀ q ∈ lw_privs_2, lw_okq q := List.forall_mem_cons.mpr ⟨lw_p16, List.forall_mem_cons.mpr ⟨lw_p17, List.forall_mem_cons.mpr ⟨lw_p18, List.forall_mem_cons.mpr ⟨lw_p19, List.forall_mem_cons.mpr ⟨lw_p20, List.forall_mem_cons.mpr ⟨lw_p21, List.forall_mem_cons.mpr ⟨lw_p22, List.forall_mem_cons.mpr ⟨lw_p23, List.forall_mem_cons.mpr ⟨lw_p24, List.forall_mem_cons.mpr ⟨lw_p25, fun _ h => absurd h List.not_mem_nil⟩⟩⟩⟩⟩⟩⟩⟩⟩⟩
def lw_privs : List (MethodName × Nat) := lw_privs_1 ++ (lw_privs_2)
def lw_tbl : List Cond := k2_sels lw_privs ++ tables_1
theorem lw_privs_ok : ∀ q ∈ lw_privs, lw_okq q := by
  show ∀ q ∈ lw_privs_1 ++ (lw_privs_2), lw_okq q
  exact List.forall_mem_append.mpr ⟨lw_r1, lw_r2⟩
-- ===== end of PART A; then your names; then what follows =====
end
section
/-! ===== BEGIN words of one list among another's, by their places ===== -/
theorem goodIn_r {big : List Cond} (ws : List Cond) (ps : List Nat) (hp : ws = ps.filterMap (fun i => big[i]?)) (h : ws.all goodWord = true) : GoodIn big ws := by
  intro w hw
  have h1 := List.all_eq_true.mp h w hw
  rw [hp] at hw
  obtain ⟨i, -, hi⟩ := List.mem_filterMap.mp hw
  have hm : w ∈ big := by first | exact List.mem_of_getElem? hi | exact List.getElem?_mem hi
  exact ⟨hm, good_of_word h1⟩
theorem goodIn_app {big a b : List Cond} (ha : GoodIn big a) (hb : GoodIn big b) : GoodIn big (a ++ b) := fun w h => (List.mem_append.mp h).elim (ha w) (hb w)
theorem goodIn_ca {big a b : List Cond} {c : Cond} (ha : GoodIn big (c :: a)) (hb : GoodIn big b) : GoodIn big (c :: (a ++ b)) := fun w h => (List.mem_cons.mp h).elim (fun e => ha w (List.mem_cons.mpr (Or.inl e))) (fun h => (List.mem_append.mp h).elim (fun h => ha w (List.mem_cons.mpr (Or.inr h))) (hb w))
theorem goodIn_sub {big ws : List Cond} (hm : ∀ w ∈ ws, w ∈ big) (h : ws.all goodWord = true) : GoodIn big ws := fun w hw => ⟨hm w hw, good_of_word (List.all_eq_true.mp h w hw)⟩
/-! ===== END ===== -/

/-! ===== BEGIN printed: names, fields, word lists, decode rows ===== -/
def RX0 : String := "SpanMover$Item"
def TX0 : u_T := fun k => match k with
  | _ => ("", "", "", false)
def tyX0 : Nat → FieldType := fun k => match k with
  | _ => .int
abbrev wsX00 : List Cond := u_ws RX0 TX0 0
theorem nmX0 : ∀ a, a < 0 → ∀ b, b < 0 → a ≠ b → (TX0 a).2.1 ≠ (TX0 b).2.1 := by decide +kernel
theorem tyX0_ok : ∀ k, k < 0 → parseFieldDescriptor (TX0 k).2.2.1 = some (tyX0 k) := by decide +kernel
abbrev cX0_init : ByteArray := prog_2_method_1_code
def yX0_init : MethodName := ⟨RX0, "<init>", "(I)V"⟩
def RX1 : String := "SpanMover$NumberRow"
def TX1 : u_T := fun k => match k with
  | 0 => ("SpanMover$Row", "size", "I", true)
  | 1 => ("SpanMover$Item", "kind", "I", true)
  | 2 => ("SpanMover$NumberRow", "numbers", "[J", true)
  | 3 => ("SpanMover$NumberRow", "digestKnown", "Z", false)
  | _ => ("SpanMover$NumberRow", "knownDigest", "J", false)
def tyX1 : Nat → FieldType := fun k => match k with
  | 0 => .int
  | 1 => .int
  | 2 => .array .long
  | 3 => .boolean
  | _ => .long
abbrev wsX10 : List Cond := u_ws RX1 TX1 5
theorem nmX1 : ∀ a, a < 5 → ∀ b, b < 5 → a ≠ b → (TX1 a).2.1 ≠ (TX1 b).2.1 := by decide +kernel
theorem tyX1_ok : ∀ k, k < 5 → parseFieldDescriptor (TX1 k).2.2.1 = some (tyX1 k) := by decide +kernel
abbrev cX1_init : ByteArray := prog_3_method_1_code
def yX1_init : MethodName := ⟨RX1, "<init>", "(II)V"⟩
abbrev cX1_numberAt : ByteArray := prog_3_method_2_code
def yX1_numberAt : MethodName := ⟨RX1, "numberAt", "(I)J"⟩
abbrev cX1_put : ByteArray := prog_3_method_3_code
def yX1_put : MethodName := ⟨RX1, "put", "(IJ)V"⟩
abbrev cX1_takeSpan : ByteArray := prog_3_method_4_code
def yX1_takeSpan : MethodName := ⟨RX1, "takeSpan", "(ILSpanMover$NumberRow;II)V"⟩
abbrev cX1_digestOfNumbers : ByteArray := prog_3_method_5_code
def yX1_digestOfNumbers : MethodName := ⟨RX1, "digestOfNumbers", "()J"⟩
abbrev cX1_narrowed : ByteArray := prog_3_method_6_code
def yX1_narrowed : MethodName := ⟨RX1, "narrowed", "(J)J"⟩
def RX2 : String := "SpanMover$ObjectRow"
def TX2 : u_T := fun k => match k with
  | 0 => ("SpanMover$Row", "size", "I", true)
  | 1 => ("SpanMover$Item", "kind", "I", true)
  | _ => ("SpanMover$ObjectRow", "objects", "[LSpanMover$Item;", true)
def tyX2 : Nat → FieldType := fun k => match k with
  | 0 => .int
  | 1 => .int
  | _ => .array (.object "SpanMover$Item")
abbrev wsX20 : List Cond := u_ws RX2 TX2 3
theorem nmX2 : ∀ a, a < 3 → ∀ b, b < 3 → a ≠ b → (TX2 a).2.1 ≠ (TX2 b).2.1 := by decide +kernel
theorem tyX2_ok : ∀ k, k < 3 → parseFieldDescriptor (TX2 k).2.2.1 = some (tyX2 k) := by decide +kernel
abbrev cX2_init : ByteArray := prog_4_method_1_code
def yX2_init : MethodName := ⟨RX2, "<init>", "(II)V"⟩
abbrev cX2_objectAt : ByteArray := prog_4_method_2_code
def yX2_objectAt : MethodName := ⟨RX2, "objectAt", "(I)LSpanMover$Item;"⟩
abbrev cX2_putObject : ByteArray := prog_4_method_3_code
def yX2_putObject : MethodName := ⟨RX2, "putObject", "(ILSpanMover$Item;)V"⟩
abbrev cX2_isFitFor : ByteArray := prog_4_method_4_code
def yX2_isFitFor : MethodName := ⟨RX2, "isFitFor", "(LSpanMover$Item;)Z"⟩
abbrev cX2_takeFittingSpan : ByteArray := prog_4_method_5_code
def yX2_takeFittingSpan : MethodName := ⟨RX2, "takeFittingSpan", "(ILSpanMover$ObjectRow;II)I"⟩
abbrev cX2_digestOfObjects : ByteArray := prog_4_method_6_code
def yX2_digestOfObjects : MethodName := ⟨RX2, "digestOfObjects", "()J"⟩
abbrev cX2_digestedAs : ByteArray := prog_4_method_7_code
def yX2_digestedAs : MethodName := ⟨RX2, "digestedAs", "(LSpanMover$Item;)J"⟩
def RX3 : String := "SpanMover$Row"
def TX3 : u_T := fun k => match k with
  | _ => ("", "", "", false)
def tyX3 : Nat → FieldType := fun k => match k with
  | _ => .int
abbrev wsX30 : List Cond := u_ws RX3 TX3 0
theorem nmX3 : ∀ a, a < 0 → ∀ b, b < 0 → a ≠ b → (TX3 a).2.1 ≠ (TX3 b).2.1 := by decide +kernel
theorem tyX3_ok : ∀ k, k < 0 → parseFieldDescriptor (TX3 k).2.2.1 = some (tyX3 k) := by decide +kernel
abbrev cX3_init : ByteArray := prog_5_method_1_code
def yX3_init : MethodName := ⟨RX3, "<init>", "(II)V"⟩
abbrev cX3_hasElement : ByteArray := prog_5_method_2_code
def yX3_hasElement : MethodName := ⟨RX3, "hasElement", "(I)Z"⟩
abbrev cX3_hasSpan : ByteArray := prog_5_method_3_code
def yX3_hasSpan : MethodName := ⟨RX3, "hasSpan", "(II)Z"⟩
def RX4 : String := "SpanMover$Thing"
def TX4 : u_T := fun k => match k with
  | 0 => ("SpanMover$Item", "kind", "I", true)
  | _ => ("SpanMover$Thing", "value", "I", true)
def tyX4 : Nat → FieldType := fun k => match k with
  | 0 => .int
  | _ => .int
abbrev wsX40 : List Cond := u_ws RX4 TX4 2
theorem nmX4 : ∀ a, a < 2 → ∀ b, b < 2 → a ≠ b → (TX4 a).2.1 ≠ (TX4 b).2.1 := by decide +kernel
theorem tyX4_ok : ∀ k, k < 2 → parseFieldDescriptor (TX4 k).2.2.1 = some (tyX4 k) := by decide +kernel
abbrev cX4_init : ByteArray := prog_6_method_1_code
def yX4_init : MethodName := ⟨RX4, "<init>", "(II)V"⟩
def RX5 : String := "SpanMover"
def TX5 : u_T := fun k => match k with
  | 0 => ("SpanMover", "shelf", "[LSpanMover$Item;", true)
  | 1 => ("SpanMover", "list", "[I", true)
  | 2 => ("SpanMover", "planned", "I", false)
  | 3 => ("SpanMover", "stock", "I", false)
  | 4 => ("SpanMover", "lastWhy", "I", false)
  | 5 => ("SpanMover", "lastMoved", "I", false)
  | 6 => ("SpanMover", "lastEnded", "I", false)
  | 7 => ("SpanMover", "movesDone", "I", false)
  | _ => ("SpanMover", "movesRefused", "I", false)
def tyX5 : Nat → FieldType := fun k => match k with
  | 0 => .array (.object "SpanMover$Item")
  | 1 => .array .int
  | 2 => .int
  | 3 => .int
  | 4 => .int
  | 5 => .int
  | 6 => .int
  | 7 => .int
  | _ => .int
abbrev wsX50 : List Cond := u_ws RX5 TX5 9
theorem nmX5 : ∀ a, a < 9 → ∀ b, b < 9 → a ≠ b → (TX5 a).2.1 ≠ (TX5 b).2.1 := by decide +kernel
theorem tyX5_ok : ∀ k, k < 9 → parseFieldDescriptor (TX5 k).2.2.1 = some (tyX5 k) := by decide +kernel
abbrev cX5_init : ByteArray := prog_1_method_1_code
def yX5_init : MethodName := ⟨RX5, "<init>", "()V"⟩
abbrev cX5_row : ByteArray := prog_1_method_2_code
def yX5_row : MethodName := ⟨RX5, "row", "(II)I"⟩
abbrev cX5_mark : ByteArray := prog_1_method_3_code
def yX5_mark : MethodName := ⟨RX5, "mark", "(I)I"⟩
abbrev cX5_seal : ByteArray := prog_1_method_4_code
def yX5_seal : MethodName := ⟨RX5, "seal", "(I)I"⟩
abbrev cX5_kindOf : ByteArray := prog_1_method_5_code
def yX5_kindOf : MethodName := ⟨RX5, "kindOf", "(I)I"⟩
abbrev cX5_length : ByteArray := prog_1_method_6_code
def yX5_length : MethodName := ⟨RX5, "length", "(I)I"⟩
abbrev cX5_set : ByteArray := prog_1_method_7_code
def yX5_set : MethodName := ⟨RX5, "set", "(IIJ)I"⟩
abbrev cX5_setThing : ByteArray := prog_1_method_8_code
def yX5_setThing : MethodName := ⟨RX5, "setThing", "(III)I"⟩
abbrev cX5_get : ByteArray := prog_1_method_9_code
def yX5_get : MethodName := ⟨RX5, "get", "(II)J"⟩
abbrev cX5_deep : ByteArray := prog_1_method_10_code
def yX5_deep : MethodName := ⟨RX5, "deep", "(III)J"⟩
abbrev cX5_why : ByteArray := prog_1_method_11_code
def yX5_why : MethodName := ⟨RX5, "why", "()I"⟩
abbrev cX5_lift : ByteArray := prog_1_method_12_code
def yX5_lift : MethodName := ⟨RX5, "lift", "(II)I"⟩
abbrev cX5_move : ByteArray := prog_1_method_13_code
def yX5_move : MethodName := ⟨RX5, "move", "(IIIII)I"⟩
abbrev cX5_moved : ByteArray := prog_1_method_14_code
def yX5_moved : MethodName := ⟨RX5, "moved", "()I"⟩
abbrev cX5_plan : ByteArray := prog_1_method_15_code
def yX5_plan : MethodName := ⟨RX5, "plan", "(IIIII)I"⟩
abbrev cX5_run : ByteArray := prog_1_method_16_code
def yX5_run : MethodName := ⟨RX5, "run", "()I"⟩
abbrev cX5_ended : ByteArray := prog_1_method_17_code
def yX5_ended : MethodName := ⟨RX5, "ended", "()I"⟩
abbrev cX5_clear : ByteArray := prog_1_method_18_code
def yX5_clear : MethodName := ⟨RX5, "clear", "(I)I"⟩
abbrev cX5_same : ByteArray := prog_1_method_19_code
def yX5_same : MethodName := ⟨RX5, "same", "(II)I"⟩
abbrev cX5_digest : ByteArray := prog_1_method_20_code
def yX5_digest : MethodName := ⟨RX5, "digest", "(I)J"⟩
abbrev cX5_count : ByteArray := prog_1_method_21_code
def yX5_count : MethodName := ⟨RX5, "count", "(I)I"⟩
abbrev cX5_itemAt : ByteArray := prog_1_method_22_code
def yX5_itemAt : MethodName := ⟨RX5, "itemAt", "(I)LSpanMover$Item;"⟩
abbrev cX5_lowestEmptyPlace : ByteArray := prog_1_method_23_code
def yX5_lowestEmptyPlace : MethodName := ⟨RX5, "lowestEmptyPlace", "()I"⟩
abbrev cX5_takenPlaces : ByteArray := prog_1_method_24_code
def yX5_takenPlaces : MethodName := ⟨RX5, "takenPlaces", "()I"⟩
abbrev cX5_newThing : ByteArray := prog_1_method_25_code
def yX5_newThing : MethodName := ⟨RX5, "newThing", "(II)I"⟩
abbrev cX5_refusalAt : ByteArray := prog_1_method_26_code
def yX5_refusalAt : MethodName := ⟨RX5, "refusalAt", "(LSpanMover$Item;III)I"⟩
abbrev cX5_toldAs : ByteArray := prog_1_method_27_code
def yX5_toldAs : MethodName := ⟨RX5, "toldAs", "(LSpanMover$Item;)J"⟩
abbrev cX5_innerNumber : ByteArray := prog_1_method_28_code
def yX5_innerNumber : MethodName := ⟨RX5, "innerNumber", "(LSpanMover$Item;I)J"⟩
abbrev cX5_standLifted : ByteArray := prog_1_method_29_code
def yX5_standLifted : MethodName := ⟨RX5, "standLifted", "(LSpanMover$Item;)I"⟩
abbrev cX5_doPlanned : ByteArray := prog_1_method_30_code
def yX5_doPlanned : MethodName := ⟨RX5, "doPlanned", "(I)I"⟩
abbrev cX5_doMove : ByteArray := prog_1_method_31_code
def yX5_doMove : MethodName := ⟨RX5, "doMove", "(IIIII)I"⟩
abbrev cX5_refusalOfRows : ByteArray := prog_1_method_32_code
def yX5_refusalOfRows : MethodName := ⟨RX5, "refusalOfRows", "(LSpanMover$Item;LSpanMover$Item;)I"⟩
abbrev cX5_moveSpan : ByteArray := prog_1_method_33_code
def yX5_moveSpan : MethodName := ⟨RX5, "moveSpan", "(LSpanMover$Row;ILSpanMover$Row;II)I"⟩
def RX6 : String := "SpanMoverModel"
def TX6 : u_T := fun k => match k with
  | 0 => ("SpanMoverModel", "heap", "[J", true)
  | 1 => ("SpanMoverModel", "used", "I", false)
  | 2 => ("SpanMoverModel", "at", "[I", true)
  | 3 => ("SpanMoverModel", "list", "[I", true)
  | 4 => ("SpanMoverModel", "listed", "I", false)
  | 5 => ("SpanMoverModel", "why", "I", false)
  | 6 => ("SpanMoverModel", "ended", "I", false)
  | 7 => ("SpanMoverModel", "moved", "I", false)
  | 8 => ("SpanMoverModel", "done", "I", false)
  | _ => ("SpanMoverModel", "refused", "I", false)
def tyX6 : Nat → FieldType := fun k => match k with
  | 0 => .array .long
  | 1 => .int
  | 2 => .array .int
  | 3 => .array .int
  | 4 => .int
  | 5 => .int
  | 6 => .int
  | 7 => .int
  | 8 => .int
  | _ => .int
abbrev wsX60 : List Cond := u_ws RX6 TX6 10
theorem nmX6 : ∀ a, a < 10 → ∀ b, b < 10 → a ≠ b → (TX6 a).2.1 ≠ (TX6 b).2.1 := by decide +kernel
theorem tyX6_ok : ∀ k, k < 10 → parseFieldDescriptor (TX6 k).2.2.1 = some (tyX6 k) := by decide +kernel
abbrev cX6_init : ByteArray := prog_8_method_1_code
def yX6_init : MethodName := ⟨RX6, "<init>", "()V"⟩
abbrev cX6_isPlace : ByteArray := prog_8_method_2_code
def yX6_isPlace : MethodName := ⟨RX6, "isPlace", "(I)Z"⟩
abbrev cX6_in : ByteArray := prog_8_method_3_code
def yX6_in : MethodName := ⟨RX6, "in", "(I)I"⟩
abbrev cX6_kind : ByteArray := prog_8_method_4_code
def yX6_kind : MethodName := ⟨RX6, "kind", "(I)I"⟩
abbrev cX6_low : ByteArray := prog_8_method_5_code
def yX6_low : MethodName := ⟨RX6, "low", "(I)I"⟩
abbrev cX6_isThing : ByteArray := prog_8_method_6_code
def yX6_isThing : MethodName := ⟨RX6, "isThing", "(I)Z"⟩
abbrev cX6_isOfObjects : ByteArray := prog_8_method_7_code
def yX6_isOfObjects : MethodName := ⟨RX6, "isOfObjects", "(I)Z"⟩
abbrev cX6_isElement : ByteArray := prog_8_method_8_code
def yX6_isElement : MethodName := ⟨RX6, "isElement", "(II)Z"⟩
abbrev cX6_object : ByteArray := prog_8_method_9_code
def yX6_object : MethodName := ⟨RX6, "object", "(II)I"⟩
abbrev cX6_lowestEmpty : ByteArray := prog_8_method_10_code
def yX6_lowestEmpty : MethodName := ⟨RX6, "lowestEmpty", "()I"⟩
abbrev cX6_stand : ByteArray := prog_8_method_11_code
def yX6_stand : MethodName := ⟨RX6, "stand", "(III)I"⟩
abbrev cX6_row : ByteArray := prog_8_method_12_code
def yX6_row : MethodName := ⟨RX6, "row", "(II)I"⟩
abbrev cX6_thing : ByteArray := prog_8_method_13_code
def yX6_thing : MethodName := ⟨RX6, "thing", "(II)I"⟩
abbrev cX6_mark : ByteArray := prog_8_method_14_code
def yX6_mark : MethodName := ⟨RX6, "mark", "(I)I"⟩
abbrev cX6_seal : ByteArray := prog_8_method_15_code
def yX6_seal : MethodName := ⟨RX6, "seal", "(I)I"⟩
abbrev cX6_kindOf : ByteArray := prog_8_method_16_code
def yX6_kindOf : MethodName := ⟨RX6, "kindOf", "(I)I"⟩
abbrev cX6_length : ByteArray := prog_8_method_17_code
def yX6_length : MethodName := ⟨RX6, "length", "(I)I"⟩
abbrev cX6_rounded : ByteArray := prog_8_method_18_code
def yX6_rounded : MethodName := ⟨RX6, "rounded", "(J)J"⟩
abbrev cX6_fitted : ByteArray := prog_8_method_19_code
def yX6_fitted : MethodName := ⟨RX6, "fitted", "(IJ)J"⟩
abbrev cX6_set : ByteArray := prog_8_method_20_code
def yX6_set : MethodName := ⟨RX6, "set", "(IIJ)I"⟩
abbrev cX6_fits : ByteArray := prog_8_method_21_code
def yX6_fits : MethodName := ⟨RX6, "fits", "(II)Z"⟩
abbrev cX6_setThing : ByteArray := prog_8_method_22_code
def yX6_setThing : MethodName := ⟨RX6, "setThing", "(III)I"⟩
abbrev cX6_told : ByteArray := prog_8_method_23_code
def yX6_told : MethodName := ⟨RX6, "told", "(II)J"⟩
abbrev cX6_refusal : ByteArray := prog_8_method_24_code
def yX6_refusal : MethodName := ⟨RX6, "refusal", "(II)I"⟩
abbrev cX6_get : ByteArray := prog_8_method_25_code
def yX6_get : MethodName := ⟨RX6, "get", "(II)J"⟩
abbrev cX6_deep : ByteArray := prog_8_method_26_code
def yX6_deep : MethodName := ⟨RX6, "deep", "(III)J"⟩
abbrev cX6_why : ByteArray := prog_8_method_27_code
def yX6_why : MethodName := ⟨RX6, "why", "()I"⟩
abbrev cX6_lift : ByteArray := prog_8_method_28_code
def yX6_lift : MethodName := ⟨RX6, "lift", "(II)I"⟩
abbrev cX6_bars : ByteArray := prog_8_method_29_code
def yX6_bars : MethodName := ⟨RX6, "bars", "(IIIII)I"⟩
abbrev cX6_move : ByteArray := prog_8_method_30_code
def yX6_move : MethodName := ⟨RX6, "move", "(IIIII)I"⟩
abbrev cX6_moved : ByteArray := prog_8_method_31_code
def yX6_moved : MethodName := ⟨RX6, "moved", "()I"⟩
abbrev cX6_plan : ByteArray := prog_8_method_32_code
def yX6_plan : MethodName := ⟨RX6, "plan", "(IIIII)I"⟩
abbrev cX6_run : ByteArray := prog_8_method_33_code
def yX6_run : MethodName := ⟨RX6, "run", "()I"⟩
abbrev cX6_ended : ByteArray := prog_8_method_34_code
def yX6_ended : MethodName := ⟨RX6, "ended", "()I"⟩
abbrev cX6_clear : ByteArray := prog_8_method_35_code
def yX6_clear : MethodName := ⟨RX6, "clear", "(I)I"⟩
abbrev cX6_same : ByteArray := prog_8_method_36_code
def yX6_same : MethodName := ⟨RX6, "same", "(II)I"⟩
abbrev cX6_summed : ByteArray := prog_8_method_37_code
def yX6_summed : MethodName := ⟨RX6, "summed", "(I)J"⟩
abbrev cX6_share : ByteArray := prog_8_method_38_code
def yX6_share : MethodName := ⟨RX6, "share", "(I)J"⟩
abbrev cX6_digest : ByteArray := prog_8_method_39_code
def yX6_digest : MethodName := ⟨RX6, "digest", "(I)J"⟩
abbrev cX6_count : ByteArray := prog_8_method_40_code
def yX6_count : MethodName := ⟨RX6, "count", "(I)I"⟩
def RJ10 : String := "java/lang/System"
def TJ10 : u_T := fun k => match k with
  | _ => ("", "", "", false)
def tyJ10 : Nat → FieldType := fun k => match k with
  | _ => .int
abbrev wsJ100 : List Cond := u_ws RJ10 TJ10 0
theorem nmJ10 : ∀ a, a < 0 → ∀ b, b < 0 → a ≠ b → (TJ10 a).2.1 ≠ (TJ10 b).2.1 := by decide +kernel
theorem tyJ10_ok : ∀ k, k < 0 → parseFieldDescriptor (TJ10 k).2.2.1 = some (tyJ10 k) := by decide +kernel
def RL : String := "SpanMoverLaw"
abbrev cL_law : ByteArray := code
def yL_law : MethodName := ⟨RL, "law", "([I)Z"⟩
def wsX0_init : List Cond := .code yX0_init cX0_init 2 none :: ([.methodLink RX0 1 objectInit, .instanceMethod objectInit, .code objectInit ⟨#[0xb1]⟩ 1 none, .fieldLink RX0 7 "SpanMover$Item" "kind" "I"] ++ wsX10 ++ wsX20 ++ wsX40)
def wsX3_init : List Cond := .code yX3_init cX3_init 3 none :: ([.fieldLink RX3 7 "SpanMover$Row" "size" "I", .methodLink RX3 1 yX0_init, .instanceMethod yX0_init, .initialized RX0, .code yX0_init cX0_init 2 none, .methodLink RX0 1 objectInit, .instanceMethod objectInit, .code objectInit ⟨#[0xb1]⟩ 1 none, .fieldLink RX0 7 "SpanMover$Item" "kind" "I"] ++ wsX10 ++ wsX20 ++ wsX40)
def wsX1_init : List Cond := .code yX1_init cX1_init 3 none :: ([.arrayClass .long, .fieldLink RX1 9 "SpanMover$NumberRow" "numbers" "[J", .methodLink RX1 3 yX3_init, .instanceMethod yX3_init, .initialized RX3, .code yX3_init cX3_init 3 none, .fieldLink RX3 7 "SpanMover$Row" "size" "I", .methodLink RX3 1 yX0_init, .instanceMethod yX0_init, .initialized RX0, .code yX0_init cX0_init 2 none, .methodLink RX0 1 objectInit, .instanceMethod objectInit, .code objectInit ⟨#[0xb1]⟩ 1 none, .fieldLink RX0 7 "SpanMover$Item" "kind" "I"] ++ wsX10 ++ wsX20 ++ wsX40)
def wsX1_numberAt : List Cond := .code yX1_numberAt cX1_numberAt 2 (some .long) :: ([.fieldLink RX1 9 "SpanMover$NumberRow" "numbers" "[J"] ++ wsX10)
def wsX1_narrowed : List Cond := .code yX1_narrowed cX1_narrowed 3 (some .long) :: ([.fieldLink RX1 29 "SpanMover$NumberRow" "kind" "I", .sameField "SpanMover$NumberRow" "SpanMover$Item" "kind" "I"] ++ wsX10 ++ wsX20 ++ wsX40)
def wsX1_put : List Cond := .code yX1_put cX1_put 4 none :: ([.fieldLink RX1 9 "SpanMover$NumberRow" "numbers" "[J", .fieldLink RX1 19 "SpanMover$NumberRow" "digestKnown" "Z", .methodLink RX1 15 yX1_narrowed, .instanceMethod yX1_narrowed, .selects RX1 yX1_narrowed yX1_narrowed, .initialized RX1, .code yX1_narrowed cX1_narrowed 3 (some .long), .fieldLink RX1 29 "SpanMover$NumberRow" "kind" "I", .sameField "SpanMover$NumberRow" "SpanMover$Item" "kind" "I"] ++ wsX10 ++ wsX20 ++ wsX40)
def wsX1_takeSpan : List Cond := .code yX1_takeSpan cX1_takeSpan 5 none :: ([.fieldLink RX1 9 "SpanMover$NumberRow" "numbers" "[J", .methodLink RX1 23 arraycopyName, .native arraycopyName, .static arraycopyName, .initialized "java/lang/System", .fieldLink RX1 19 "SpanMover$NumberRow" "digestKnown" "Z"] ++ wsX10)
def wsX1_digestOfNumbers : List Cond := .code yX1_digestOfNumbers cX1_digestOfNumbers 8 (some .long) :: ([.fieldLink RX1 19 "SpanMover$NumberRow" "digestKnown" "Z", .fieldLink RX1 29 "SpanMover$NumberRow" "kind" "I", .sameField "SpanMover$NumberRow" "SpanMover$Item" "kind" "I", .fieldLink RX1 9 "SpanMover$NumberRow" "numbers" "[J", .constantLong RX1 33 (31), .fieldLink RX1 35 "SpanMover$NumberRow" "knownDigest" "J"] ++ wsX10 ++ wsX20 ++ wsX40)
def wsX2_init : List Cond := .code yX2_init cX2_init 3 none :: ([.classLink RX2 9 RX0, .fieldLink RX2 11 "SpanMover$ObjectRow" "objects" "[LSpanMover$Item;", .methodLink RX2 3 yX3_init, .instanceMethod yX3_init, .initialized RX3, .code yX3_init cX3_init 3 none, .fieldLink RX3 7 "SpanMover$Row" "size" "I", .methodLink RX3 1 yX0_init, .instanceMethod yX0_init, .initialized RX0, .code yX0_init cX0_init 2 none, .methodLink RX0 1 objectInit, .instanceMethod objectInit, .code objectInit ⟨#[0xb1]⟩ 1 none, .fieldLink RX0 7 "SpanMover$Item" "kind" "I"] ++ wsX20 ++ wsX10 ++ wsX40)
def wsX2_objectAt : List Cond := .code yX2_objectAt cX2_objectAt 2 (some (.object "SpanMover$Item")) :: ([.fieldLink RX2 11 "SpanMover$ObjectRow" "objects" "[LSpanMover$Item;"] ++ wsX20)
def wsX2_putObject : List Cond := .code yX2_putObject cX2_putObject 3 none :: ([.fieldLink RX2 11 "SpanMover$ObjectRow" "objects" "[LSpanMover$Item;"] ++ wsX20)
def wsX2_isFitFor : List Cond := .code yX2_isFitFor cX2_isFitFor 2 (some .boolean) :: ([.fieldLink RX2 17 "SpanMover$ObjectRow" "kind" "I", .sameField "SpanMover$ObjectRow" "SpanMover$Item" "kind" "I", .fieldLink RX2 21 "SpanMover$Item" "kind" "I"] ++ wsX10 ++ wsX20 ++ wsX40)
def wsX2_takeFittingSpan : List Cond := .code yX2_takeFittingSpan cX2_takeFittingSpan 6 (some .int) :: ([.fieldLink RX2 11 "SpanMover$ObjectRow" "objects" "[LSpanMover$Item;", .methodLink RX2 26 arraycopyName, .native arraycopyName, .static arraycopyName, .initialized "java/lang/System", .methodLink RX2 22 yX2_isFitFor, .instanceMethod yX2_isFitFor, .selects RX2 yX2_isFitFor yX2_isFitFor, .initialized RX2, .code yX2_isFitFor cX2_isFitFor 2 (some .boolean), .fieldLink RX2 17 "SpanMover$ObjectRow" "kind" "I", .sameField "SpanMover$ObjectRow" "SpanMover$Item" "kind" "I", .fieldLink RX2 21 "SpanMover$Item" "kind" "I"] ++ wsX20 ++ wsX10 ++ wsX40)
def wsX5_toldAs : List Cond := .code yX5_toldAs cX5_toldAs 2 (some .long) :: ([.classLink RX5 120 "SpanMover$Thing", .fieldLink RX5 124 "SpanMover$Thing" "kind" "I", .sameField "SpanMover$Thing" "SpanMover$Item" "kind" "I", .constantLong RX5 137 (4294967296), .fieldLink RX5 125 "SpanMover$Thing" "value" "I", .constantLong RX5 139 (4294967295), .classLink RX5 65 "SpanMover$Row", .fieldLink RX5 67 "SpanMover$Row" "size" "I", .constantLong RX5 141 (-1)] ++ wsX10 ++ wsX20 ++ wsX40)
def wsX2_digestedAs : List Cond := .code yX2_digestedAs cX2_digestedAs 2 (some .long) :: ([.classLink RX2 38 "SpanMover$NumberRow", .methodLink RX2 40 yX1_digestOfNumbers, .instanceMethod yX1_digestOfNumbers, .selects RX1 yX1_digestOfNumbers yX1_digestOfNumbers, .initialized RX1, .code yX1_digestOfNumbers cX1_digestOfNumbers 8 (some .long), .fieldLink RX1 19 "SpanMover$NumberRow" "digestKnown" "Z", .fieldLink RX1 29 "SpanMover$NumberRow" "kind" "I", .sameField "SpanMover$NumberRow" "SpanMover$Item" "kind" "I", .fieldLink RX1 9 "SpanMover$NumberRow" "numbers" "[J", .constantLong RX1 33 (31), .fieldLink RX1 35 "SpanMover$NumberRow" "knownDigest" "J", .static yX5_toldAs, .initialized RX5, .code yX5_toldAs cX5_toldAs 2 (some .long), .classLink RX5 120 "SpanMover$Thing", .fieldLink RX5 124 "SpanMover$Thing" "kind" "I", .sameField "SpanMover$Thing" "SpanMover$Item" "kind" "I", .constantLong RX5 137 (4294967296), .fieldLink RX5 125 "SpanMover$Thing" "value" "I", .constantLong RX5 139 (4294967295), .classLink RX5 65 "SpanMover$Row", .fieldLink RX5 67 "SpanMover$Row" "size" "I", .constantLong RX5 141 (-1)] ++ wsX10 ++ wsX20 ++ wsX40)
def wsX2_digestOfObjects_r1 : List Cond := [Cond.fieldLink RX2 17 "SpanMover$ObjectRow" "kind" "I", Cond.sameField "SpanMover$ObjectRow" "SpanMover$Item" "kind" "I", Cond.fieldLink RX2 11 "SpanMover$ObjectRow" "objects" "[LSpanMover$Item;", Cond.constantLong RX2 32 (31), Cond.methodLink RX2 34 yX2_digestedAs, Cond.static yX2_digestedAs, Cond.initialized RX2, Cond.code yX2_digestedAs cX2_digestedAs 2 (some .long), Cond.classLink RX2 38 "SpanMover$NumberRow", Cond.methodLink RX2 40 yX1_digestOfNumbers, Cond.instanceMethod yX1_digestOfNumbers, Cond.selects RX1 yX1_digestOfNumbers yX1_digestOfNumbers, Cond.initialized RX1, Cond.code yX1_digestOfNumbers cX1_digestOfNumbers 8 (some .long), Cond.fieldLink RX1 19 "SpanMover$NumberRow" "digestKnown" "Z", Cond.fieldLink RX1 29 "SpanMover$NumberRow" "kind" "I", Cond.sameField "SpanMover$NumberRow" "SpanMover$Item" "kind" "I", Cond.fieldLink RX1 9 "SpanMover$NumberRow" "numbers" "[J", Cond.constantLong RX1 33 (31), Cond.fieldLink RX1 35 "SpanMover$NumberRow" "knownDigest" "J", Cond.static yX5_toldAs, Cond.initialized RX5, Cond.code yX5_toldAs cX5_toldAs 2 (some .long), Cond.classLink RX5 120 "SpanMover$Thing"]
def wsX2_digestOfObjects_r2 : List Cond := [Cond.fieldLink RX5 124 "SpanMover$Thing" "kind" "I", Cond.sameField "SpanMover$Thing" "SpanMover$Item" "kind" "I", Cond.constantLong RX5 137 (4294967296), Cond.fieldLink RX5 125 "SpanMover$Thing" "value" "I", Cond.constantLong RX5 139 (4294967295), Cond.classLink RX5 65 "SpanMover$Row", Cond.fieldLink RX5 67 "SpanMover$Row" "size" "I", Cond.constantLong RX5 141 (-1)]
def wsX2_digestOfObjects : List Cond := .code yX2_digestOfObjects cX2_digestOfObjects 7 (some .long) :: ((wsX2_digestOfObjects_r1 ++ wsX2_digestOfObjects_r2) ++ wsX10 ++ wsX20 ++ wsX40)
def wsX3_hasElement : List Cond := .code yX3_hasElement cX3_hasElement 2 (some .boolean) :: ([.fieldLink RX3 7 "SpanMover$Row" "size" "I"] ++ wsX10 ++ wsX20)
def wsX3_hasSpan : List Cond := .code yX3_hasSpan cX3_hasSpan 3 (some .boolean) :: ([.fieldLink RX3 7 "SpanMover$Row" "size" "I"] ++ wsX10 ++ wsX20)
def wsX4_init : List Cond := .code yX4_init cX4_init 3 none :: ([.fieldLink RX4 7 "SpanMover$Thing" "value" "I", .methodLink RX4 1 yX0_init, .instanceMethod yX0_init, .initialized RX0, .code yX0_init cX0_init 2 none, .methodLink RX0 1 objectInit, .instanceMethod objectInit, .code objectInit ⟨#[0xb1]⟩ 1 none, .fieldLink RX0 7 "SpanMover$Item" "kind" "I"] ++ wsX40 ++ wsX10 ++ wsX20)
def wsX5_init : List Cond := .code yX5_init cX5_init 1 none :: ([.methodLink RX5 1 objectInit, .instanceMethod objectInit, .code objectInit ⟨#[0xb1]⟩ 1 none, .classLink RX5 9 RX0, .fieldLink RX5 11 "SpanMover" "shelf" "[LSpanMover$Item;", .arrayClass .int, .fieldLink RX5 15 "SpanMover" "list" "[I", .fieldLink RX5 19 "SpanMover" "planned" "I", .constant RX5 23 (60000), .fieldLink RX5 24 "SpanMover" "stock" "I", .fieldLink RX5 27 "SpanMover" "lastWhy" "I", .fieldLink RX5 30 "SpanMover" "lastMoved" "I", .fieldLink RX5 33 "SpanMover" "lastEnded" "I", .fieldLink RX5 36 "SpanMover" "movesDone" "I", .fieldLink RX5 39 "SpanMover" "movesRefused" "I"] ++ wsX50)
def wsX5_lowestEmptyPlace : List Cond := .code yX5_lowestEmptyPlace cX5_lowestEmptyPlace 2 (some .int) :: ([.fieldLink RX5 11 "SpanMover" "shelf" "[LSpanMover$Item;"] ++ wsX50)
def wsX5_row_r1 : List Cond := [Cond.fieldLink RX5 24 "SpanMover" "stock" "I", Cond.fieldLink RX5 11 "SpanMover" "shelf" "[LSpanMover$Item;", Cond.classLink RX5 46 RX1, Cond.instantiable RX1 5, Cond.initialized RX1, Cond.classLink RX5 51 RX2, Cond.instantiable RX2 3, Cond.initialized RX2, Cond.methodLink RX5 42 yX5_lowestEmptyPlace, Cond.instanceMethod yX5_lowestEmptyPlace, Cond.selects RX5 yX5_lowestEmptyPlace yX5_lowestEmptyPlace, Cond.initialized RX5, Cond.code yX5_lowestEmptyPlace cX5_lowestEmptyPlace 2 (some .int), Cond.methodLink RX5 48 yX1_init, Cond.instanceMethod yX1_init, Cond.code yX1_init cX1_init 3 none, Cond.arrayClass .long, Cond.fieldLink RX1 9 "SpanMover$NumberRow" "numbers" "[J", Cond.methodLink RX1 3 yX3_init, Cond.instanceMethod yX3_init, Cond.initialized RX3, Cond.code yX3_init cX3_init 3 none, Cond.fieldLink RX3 7 "SpanMover$Row" "size" "I", Cond.methodLink RX3 1 yX0_init]
def wsX5_row_r2 : List Cond := [Cond.instanceMethod yX0_init, Cond.initialized RX0, Cond.code yX0_init cX0_init 2 none, Cond.methodLink RX0 1 objectInit, Cond.instanceMethod objectInit, Cond.code objectInit ⟨#[0xb1]⟩ 1 none, Cond.fieldLink RX0 7 "SpanMover$Item" "kind" "I", Cond.methodLink RX5 53 yX2_init, Cond.instanceMethod yX2_init, Cond.code yX2_init cX2_init 3 none, Cond.classLink RX2 9 RX0, Cond.fieldLink RX2 11 "SpanMover$ObjectRow" "objects" "[LSpanMover$Item;", Cond.methodLink RX2 3 yX3_init]
def wsX5_row : List Cond := .code yX5_row cX5_row 4 (some .int) :: ((wsX5_row_r1 ++ wsX5_row_r2) ++ wsX50 ++ wsX10 ++ wsX20 ++ wsX40)
def wsX5_newThing : List Cond := .code yX5_newThing cX5_newThing 4 (some .int) :: ([.fieldLink RX5 24 "SpanMover" "stock" "I", .fieldLink RX5 11 "SpanMover" "shelf" "[LSpanMover$Item;", .classLink RX5 120 RX4, .instantiable RX4 2, .initialized RX4, .methodLink RX5 42 yX5_lowestEmptyPlace, .instanceMethod yX5_lowestEmptyPlace, .selects RX5 yX5_lowestEmptyPlace yX5_lowestEmptyPlace, .initialized RX5, .code yX5_lowestEmptyPlace cX5_lowestEmptyPlace 2 (some .int), .methodLink RX5 131 yX4_init, .instanceMethod yX4_init, .code yX4_init cX4_init 3 none, .fieldLink RX4 7 "SpanMover$Thing" "value" "I", .methodLink RX4 1 yX0_init, .instanceMethod yX0_init, .initialized RX0, .code yX0_init cX0_init 2 none, .methodLink RX0 1 objectInit, .instanceMethod objectInit, .code objectInit ⟨#[0xb1]⟩ 1 none, .fieldLink RX0 7 "SpanMover$Item" "kind" "I"] ++ wsX50 ++ wsX40 ++ wsX10 ++ wsX20)
def wsX5_mark_r1 : List Cond := [Cond.methodLink RX5 54 yX5_newThing, Cond.instanceMethod yX5_newThing, Cond.selects RX5 yX5_newThing yX5_newThing, Cond.initialized RX5, Cond.code yX5_newThing cX5_newThing 4 (some .int), Cond.fieldLink RX5 24 "SpanMover" "stock" "I", Cond.fieldLink RX5 11 "SpanMover" "shelf" "[LSpanMover$Item;", Cond.classLink RX5 120 RX4, Cond.instantiable RX4 2, Cond.initialized RX4, Cond.methodLink RX5 42 yX5_lowestEmptyPlace, Cond.instanceMethod yX5_lowestEmptyPlace, Cond.selects RX5 yX5_lowestEmptyPlace yX5_lowestEmptyPlace, Cond.code yX5_lowestEmptyPlace cX5_lowestEmptyPlace 2 (some .int), Cond.methodLink RX5 131 yX4_init, Cond.instanceMethod yX4_init, Cond.code yX4_init cX4_init 3 none, Cond.fieldLink RX4 7 "SpanMover$Thing" "value" "I", Cond.methodLink RX4 1 yX0_init, Cond.instanceMethod yX0_init, Cond.initialized RX0, Cond.code yX0_init cX0_init 2 none, Cond.methodLink RX0 1 objectInit, Cond.instanceMethod objectInit]
def wsX5_mark_r2 : List Cond := [Cond.code objectInit ⟨#[0xb1]⟩ 1 none, Cond.fieldLink RX0 7 "SpanMover$Item" "kind" "I"]
def wsX5_mark : List Cond := .code yX5_mark cX5_mark 2 (some .int) :: ((wsX5_mark_r1 ++ wsX5_mark_r2) ++ wsX50 ++ wsX40 ++ wsX10 ++ wsX20)
def wsX5_seal_r1 : List Cond := [Cond.methodLink RX5 54 yX5_newThing, Cond.instanceMethod yX5_newThing, Cond.selects RX5 yX5_newThing yX5_newThing, Cond.initialized RX5, Cond.code yX5_newThing cX5_newThing 4 (some .int), Cond.fieldLink RX5 24 "SpanMover" "stock" "I", Cond.fieldLink RX5 11 "SpanMover" "shelf" "[LSpanMover$Item;", Cond.classLink RX5 120 RX4, Cond.instantiable RX4 2, Cond.initialized RX4, Cond.methodLink RX5 42 yX5_lowestEmptyPlace, Cond.instanceMethod yX5_lowestEmptyPlace, Cond.selects RX5 yX5_lowestEmptyPlace yX5_lowestEmptyPlace, Cond.code yX5_lowestEmptyPlace cX5_lowestEmptyPlace 2 (some .int), Cond.methodLink RX5 131 yX4_init, Cond.instanceMethod yX4_init, Cond.code yX4_init cX4_init 3 none, Cond.fieldLink RX4 7 "SpanMover$Thing" "value" "I", Cond.methodLink RX4 1 yX0_init, Cond.instanceMethod yX0_init, Cond.initialized RX0, Cond.code yX0_init cX0_init 2 none, Cond.methodLink RX0 1 objectInit, Cond.instanceMethod objectInit]
def wsX5_seal_r2 : List Cond := [Cond.code objectInit ⟨#[0xb1]⟩ 1 none, Cond.fieldLink RX0 7 "SpanMover$Item" "kind" "I"]
def wsX5_seal : List Cond := .code yX5_seal cX5_seal 2 (some .int) :: ((wsX5_seal_r1 ++ wsX5_seal_r2) ++ wsX50 ++ wsX40 ++ wsX10 ++ wsX20)
def wsX5_itemAt : List Cond := .code yX5_itemAt cX5_itemAt 2 (some (.object "SpanMover$Item")) :: ([.fieldLink RX5 11 "SpanMover" "shelf" "[LSpanMover$Item;"] ++ wsX50)
def wsX5_kindOf : List Cond := .code yX5_kindOf cX5_kindOf 3 (some .int) :: ([.fieldLink RX5 62 "SpanMover$Item" "kind" "I", .methodLink RX5 58 yX5_itemAt, .instanceMethod yX5_itemAt, .selects RX5 yX5_itemAt yX5_itemAt, .initialized RX5, .code yX5_itemAt cX5_itemAt 2 (some (.object "SpanMover$Item")), .fieldLink RX5 11 "SpanMover" "shelf" "[LSpanMover$Item;"] ++ wsX10 ++ wsX20 ++ wsX40 ++ wsX50)
def wsX5_length : List Cond := .code yX5_length cX5_length 4 (some .int) :: ([.classLink RX5 65 "SpanMover$Row", .fieldLink RX5 67 "SpanMover$Row" "size" "I", .methodLink RX5 58 yX5_itemAt, .instanceMethod yX5_itemAt, .selects RX5 yX5_itemAt yX5_itemAt, .initialized RX5, .code yX5_itemAt cX5_itemAt 2 (some (.object "SpanMover$Item")), .fieldLink RX5 11 "SpanMover" "shelf" "[LSpanMover$Item;"] ++ wsX10 ++ wsX20 ++ wsX50)
def wsX5_refusalAt : List Cond := .code yX5_refusalAt cX5_refusalAt 5 (some .int) :: ([.classLink RX5 65 "SpanMover$Row", .fieldLink RX5 132 "SpanMover$Row" "kind" "I", .sameField "SpanMover$Row" "SpanMover$Item" "kind" "I", .methodLink RX5 133 ⟨"SpanMover$Row", "hasElement", "(I)Z"⟩, .sameMethod "SpanMover$Row" "SpanMover$Row" "hasElement" "(I)Z", .selects RX1 ⟨"SpanMover$Row", "hasElement", "(I)Z"⟩ yX3_hasElement, .instanceMethod yX3_hasElement, .initialized RX3, .code yX3_hasElement cX3_hasElement 2 (some .boolean), .fieldLink RX3 7 "SpanMover$Row" "size" "I", .selects RX2 ⟨"SpanMover$Row", "hasElement", "(I)Z"⟩ yX3_hasElement] ++ wsX10 ++ wsX20 ++ wsX40)
def wsX5_set_r1 : List Cond := [Cond.classLink RX5 46 "SpanMover$NumberRow", Cond.methodLink RX5 58 yX5_itemAt, Cond.instanceMethod yX5_itemAt, Cond.selects RX5 yX5_itemAt yX5_itemAt, Cond.initialized RX5, Cond.code yX5_itemAt cX5_itemAt 2 (some (.object "SpanMover$Item")), Cond.fieldLink RX5 11 "SpanMover" "shelf" "[LSpanMover$Item;", Cond.methodLink RX5 70 yX5_refusalAt, Cond.static yX5_refusalAt, Cond.code yX5_refusalAt cX5_refusalAt 5 (some .int), Cond.classLink RX5 65 "SpanMover$Row", Cond.fieldLink RX5 132 "SpanMover$Row" "kind" "I", Cond.sameField "SpanMover$Row" "SpanMover$Item" "kind" "I", Cond.methodLink RX5 133 ⟨"SpanMover$Row", "hasElement", "(I)Z"⟩, Cond.sameMethod "SpanMover$Row" "SpanMover$Row" "hasElement" "(I)Z", Cond.selects RX1 ⟨"SpanMover$Row", "hasElement", "(I)Z"⟩ yX3_hasElement, Cond.instanceMethod yX3_hasElement, Cond.initialized RX3, Cond.code yX3_hasElement cX3_hasElement 2 (some .boolean), Cond.fieldLink RX3 7 "SpanMover$Row" "size" "I", Cond.selects RX2 ⟨"SpanMover$Row", "hasElement", "(I)Z"⟩ yX3_hasElement, Cond.methodLink RX5 74 yX1_put, Cond.instanceMethod yX1_put, Cond.selects RX1 yX1_put yX1_put]
def wsX5_set_r2 : List Cond := [Cond.initialized RX1, Cond.code yX1_put cX1_put 4 none, Cond.fieldLink RX1 9 "SpanMover$NumberRow" "numbers" "[J", Cond.fieldLink RX1 19 "SpanMover$NumberRow" "digestKnown" "Z", Cond.methodLink RX1 15 yX1_narrowed, Cond.instanceMethod yX1_narrowed, Cond.selects RX1 yX1_narrowed yX1_narrowed, Cond.code yX1_narrowed cX1_narrowed 3 (some .long), Cond.fieldLink RX1 29 "SpanMover$NumberRow" "kind" "I", Cond.sameField "SpanMover$NumberRow" "SpanMover$Item" "kind" "I"]
def wsX5_set : List Cond := .code yX5_set cX5_set 8 (some .int) :: ((wsX5_set_r1 ++ wsX5_set_r2) ++ wsX50 ++ wsX10 ++ wsX20 ++ wsX40)
def wsX5_setThing_r1 : List Cond := [Cond.classLink RX5 51 "SpanMover$ObjectRow", Cond.methodLink RX5 58 yX5_itemAt, Cond.instanceMethod yX5_itemAt, Cond.selects RX5 yX5_itemAt yX5_itemAt, Cond.initialized RX5, Cond.code yX5_itemAt cX5_itemAt 2 (some (.object "SpanMover$Item")), Cond.fieldLink RX5 11 "SpanMover" "shelf" "[LSpanMover$Item;", Cond.methodLink RX5 70 yX5_refusalAt, Cond.static yX5_refusalAt, Cond.code yX5_refusalAt cX5_refusalAt 5 (some .int), Cond.classLink RX5 65 "SpanMover$Row", Cond.fieldLink RX5 132 "SpanMover$Row" "kind" "I", Cond.sameField "SpanMover$Row" "SpanMover$Item" "kind" "I", Cond.methodLink RX5 133 ⟨"SpanMover$Row", "hasElement", "(I)Z"⟩, Cond.sameMethod "SpanMover$Row" "SpanMover$Row" "hasElement" "(I)Z", Cond.selects RX1 ⟨"SpanMover$Row", "hasElement", "(I)Z"⟩ yX3_hasElement, Cond.instanceMethod yX3_hasElement, Cond.initialized RX3, Cond.code yX3_hasElement cX3_hasElement 2 (some .boolean), Cond.fieldLink RX3 7 "SpanMover$Row" "size" "I", Cond.selects RX2 ⟨"SpanMover$Row", "hasElement", "(I)Z"⟩ yX3_hasElement, Cond.methodLink RX5 78 yX2_isFitFor, Cond.instanceMethod yX2_isFitFor, Cond.selects RX2 yX2_isFitFor yX2_isFitFor]
def wsX5_setThing_r2 : List Cond := [Cond.initialized RX2, Cond.code yX2_isFitFor cX2_isFitFor 2 (some .boolean), Cond.fieldLink RX2 17 "SpanMover$ObjectRow" "kind" "I", Cond.sameField "SpanMover$ObjectRow" "SpanMover$Item" "kind" "I", Cond.fieldLink RX2 21 "SpanMover$Item" "kind" "I", Cond.methodLink RX5 82 yX2_putObject, Cond.instanceMethod yX2_putObject, Cond.selects RX2 yX2_putObject yX2_putObject, Cond.code yX2_putObject cX2_putObject 3 none, Cond.fieldLink RX2 11 "SpanMover$ObjectRow" "objects" "[LSpanMover$Item;"]
def wsX5_setThing : List Cond := .code yX5_setThing cX5_setThing 8 (some .int) :: ((wsX5_setThing_r1 ++ wsX5_setThing_r2) ++ wsX50 ++ wsX10 ++ wsX20 ++ wsX40)
def wsX5_get_r1 : List Cond := [Cond.fieldLink RX5 27 "SpanMover" "lastWhy" "I", Cond.classLink RX5 46 "SpanMover$NumberRow", Cond.classLink RX5 51 "SpanMover$ObjectRow", Cond.methodLink RX5 58 yX5_itemAt, Cond.instanceMethod yX5_itemAt, Cond.selects RX5 yX5_itemAt yX5_itemAt, Cond.initialized RX5, Cond.code yX5_itemAt cX5_itemAt 2 (some (.object "SpanMover$Item")), Cond.fieldLink RX5 11 "SpanMover" "shelf" "[LSpanMover$Item;", Cond.methodLink RX5 70 yX5_refusalAt, Cond.static yX5_refusalAt, Cond.code yX5_refusalAt cX5_refusalAt 5 (some .int), Cond.classLink RX5 65 "SpanMover$Row", Cond.fieldLink RX5 132 "SpanMover$Row" "kind" "I", Cond.sameField "SpanMover$Row" "SpanMover$Item" "kind" "I", Cond.methodLink RX5 133 ⟨"SpanMover$Row", "hasElement", "(I)Z"⟩, Cond.sameMethod "SpanMover$Row" "SpanMover$Row" "hasElement" "(I)Z", Cond.selects RX1 ⟨"SpanMover$Row", "hasElement", "(I)Z"⟩ yX3_hasElement, Cond.instanceMethod yX3_hasElement, Cond.initialized RX3, Cond.code yX3_hasElement cX3_hasElement 2 (some .boolean), Cond.fieldLink RX3 7 "SpanMover$Row" "size" "I", Cond.selects RX2 ⟨"SpanMover$Row", "hasElement", "(I)Z"⟩ yX3_hasElement, Cond.methodLink RX5 86 yX1_numberAt]
def wsX5_get_r2 : List Cond := [Cond.instanceMethod yX1_numberAt, Cond.selects RX1 yX1_numberAt yX1_numberAt, Cond.initialized RX1, Cond.code yX1_numberAt cX1_numberAt 2 (some .long), Cond.fieldLink RX1 9 "SpanMover$NumberRow" "numbers" "[J", Cond.methodLink RX5 90 yX2_objectAt, Cond.instanceMethod yX2_objectAt, Cond.selects RX2 yX2_objectAt yX2_objectAt, Cond.initialized RX2, Cond.code yX2_objectAt cX2_objectAt 2 (some (.object "SpanMover$Item")), Cond.fieldLink RX2 11 "SpanMover$ObjectRow" "objects" "[LSpanMover$Item;", Cond.methodLink RX5 93 yX5_toldAs, Cond.static yX5_toldAs, Cond.code yX5_toldAs cX5_toldAs 2 (some .long), Cond.classLink RX5 120 "SpanMover$Thing", Cond.fieldLink RX5 124 "SpanMover$Thing" "kind" "I", Cond.sameField "SpanMover$Thing" "SpanMover$Item" "kind" "I", Cond.constantLong RX5 137 (4294967296), Cond.fieldLink RX5 125 "SpanMover$Thing" "value" "I", Cond.constantLong RX5 139 (4294967295), Cond.fieldLink RX5 67 "SpanMover$Row" "size" "I", Cond.constantLong RX5 141 (-1)]
def wsX5_get : List Cond := .code yX5_get cX5_get 5 (some .long) :: ((wsX5_get_r1 ++ wsX5_get_r2) ++ wsX50 ++ wsX10 ++ wsX20 ++ wsX40)
def wsX5_innerNumber : List Cond := .code yX5_innerNumber cX5_innerNumber 4 (some .long) :: ([.classLink RX5 46 "SpanMover$NumberRow", .fieldLink RX5 27 "SpanMover" "lastWhy" "I", .methodLink RX5 143 ⟨"SpanMover$NumberRow", "hasElement", "(I)Z"⟩, .sameMethod "SpanMover$NumberRow" "SpanMover$Row" "hasElement" "(I)Z", .selects RX1 ⟨"SpanMover$NumberRow", "hasElement", "(I)Z"⟩ yX3_hasElement, .instanceMethod yX3_hasElement, .initialized RX3, .code yX3_hasElement cX3_hasElement 2 (some .boolean), .fieldLink RX3 7 "SpanMover$Row" "size" "I", .methodLink RX5 86 yX1_numberAt, .instanceMethod yX1_numberAt, .selects RX1 yX1_numberAt yX1_numberAt, .initialized RX1, .code yX1_numberAt cX1_numberAt 2 (some .long), .fieldLink RX1 9 "SpanMover$NumberRow" "numbers" "[J"] ++ wsX50 ++ wsX10 ++ wsX20)
def wsX5_deep_r1 : List Cond := [Cond.fieldLink RX5 27 "SpanMover" "lastWhy" "I", Cond.classLink RX5 51 "SpanMover$ObjectRow", Cond.methodLink RX5 58 yX5_itemAt, Cond.instanceMethod yX5_itemAt, Cond.selects RX5 yX5_itemAt yX5_itemAt, Cond.initialized RX5, Cond.code yX5_itemAt cX5_itemAt 2 (some (.object "SpanMover$Item")), Cond.fieldLink RX5 11 "SpanMover" "shelf" "[LSpanMover$Item;", Cond.methodLink RX5 70 yX5_refusalAt, Cond.static yX5_refusalAt, Cond.code yX5_refusalAt cX5_refusalAt 5 (some .int), Cond.classLink RX5 65 "SpanMover$Row", Cond.fieldLink RX5 132 "SpanMover$Row" "kind" "I", Cond.sameField "SpanMover$Row" "SpanMover$Item" "kind" "I", Cond.methodLink RX5 133 ⟨"SpanMover$Row", "hasElement", "(I)Z"⟩, Cond.sameMethod "SpanMover$Row" "SpanMover$Row" "hasElement" "(I)Z", Cond.selects RX1 ⟨"SpanMover$Row", "hasElement", "(I)Z"⟩ yX3_hasElement, Cond.instanceMethod yX3_hasElement, Cond.initialized RX3, Cond.code yX3_hasElement cX3_hasElement 2 (some .boolean), Cond.fieldLink RX3 7 "SpanMover$Row" "size" "I", Cond.selects RX2 ⟨"SpanMover$Row", "hasElement", "(I)Z"⟩ yX3_hasElement, Cond.methodLink RX5 90 yX2_objectAt, Cond.instanceMethod yX2_objectAt]
def wsX5_deep_r2 : List Cond := [Cond.selects RX2 yX2_objectAt yX2_objectAt, Cond.initialized RX2, Cond.code yX2_objectAt cX2_objectAt 2 (some (.object "SpanMover$Item")), Cond.fieldLink RX2 11 "SpanMover$ObjectRow" "objects" "[LSpanMover$Item;", Cond.methodLink RX5 97 yX5_innerNumber, Cond.instanceMethod yX5_innerNumber, Cond.selects RX5 yX5_innerNumber yX5_innerNumber, Cond.code yX5_innerNumber cX5_innerNumber 4 (some .long), Cond.classLink RX5 46 "SpanMover$NumberRow", Cond.methodLink RX5 143 ⟨"SpanMover$NumberRow", "hasElement", "(I)Z"⟩, Cond.sameMethod "SpanMover$NumberRow" "SpanMover$Row" "hasElement" "(I)Z", Cond.selects RX1 ⟨"SpanMover$NumberRow", "hasElement", "(I)Z"⟩ yX3_hasElement, Cond.methodLink RX5 86 yX1_numberAt, Cond.instanceMethod yX1_numberAt, Cond.selects RX1 yX1_numberAt yX1_numberAt, Cond.initialized RX1, Cond.code yX1_numberAt cX1_numberAt 2 (some .long), Cond.fieldLink RX1 9 "SpanMover$NumberRow" "numbers" "[J"]
def wsX5_deep : List Cond := .code yX5_deep cX5_deep 6 (some .long) :: ((wsX5_deep_r1 ++ wsX5_deep_r2) ++ wsX50 ++ wsX10 ++ wsX20 ++ wsX40)
def wsX5_why : List Cond := .code yX5_why cX5_why 1 (some .int) :: ([.fieldLink RX5 27 "SpanMover" "lastWhy" "I"] ++ wsX50)
def wsX5_standLifted : List Cond := .code yX5_standLifted cX5_standLifted 3 (some .int) :: ([.fieldLink RX5 11 "SpanMover" "shelf" "[LSpanMover$Item;", .methodLink RX5 42 yX5_lowestEmptyPlace, .instanceMethod yX5_lowestEmptyPlace, .selects RX5 yX5_lowestEmptyPlace yX5_lowestEmptyPlace, .initialized RX5, .code yX5_lowestEmptyPlace cX5_lowestEmptyPlace 2 (some .int)] ++ wsX50)
def wsX5_lift_r1 : List Cond := [Cond.classLink RX5 51 "SpanMover$ObjectRow", Cond.methodLink RX5 58 yX5_itemAt, Cond.instanceMethod yX5_itemAt, Cond.selects RX5 yX5_itemAt yX5_itemAt, Cond.initialized RX5, Cond.code yX5_itemAt cX5_itemAt 2 (some (.object "SpanMover$Item")), Cond.fieldLink RX5 11 "SpanMover" "shelf" "[LSpanMover$Item;", Cond.methodLink RX5 70 yX5_refusalAt, Cond.static yX5_refusalAt, Cond.code yX5_refusalAt cX5_refusalAt 5 (some .int), Cond.classLink RX5 65 "SpanMover$Row", Cond.fieldLink RX5 132 "SpanMover$Row" "kind" "I", Cond.sameField "SpanMover$Row" "SpanMover$Item" "kind" "I", Cond.methodLink RX5 133 ⟨"SpanMover$Row", "hasElement", "(I)Z"⟩, Cond.sameMethod "SpanMover$Row" "SpanMover$Row" "hasElement" "(I)Z", Cond.selects RX1 ⟨"SpanMover$Row", "hasElement", "(I)Z"⟩ yX3_hasElement, Cond.instanceMethod yX3_hasElement, Cond.initialized RX3, Cond.code yX3_hasElement cX3_hasElement 2 (some .boolean), Cond.fieldLink RX3 7 "SpanMover$Row" "size" "I", Cond.selects RX2 ⟨"SpanMover$Row", "hasElement", "(I)Z"⟩ yX3_hasElement, Cond.methodLink RX5 90 yX2_objectAt, Cond.instanceMethod yX2_objectAt, Cond.selects RX2 yX2_objectAt yX2_objectAt]
def wsX5_lift_r2 : List Cond := [Cond.initialized RX2, Cond.code yX2_objectAt cX2_objectAt 2 (some (.object "SpanMover$Item")), Cond.fieldLink RX2 11 "SpanMover$ObjectRow" "objects" "[LSpanMover$Item;", Cond.methodLink RX5 101 yX5_standLifted, Cond.instanceMethod yX5_standLifted, Cond.selects RX5 yX5_standLifted yX5_standLifted, Cond.code yX5_standLifted cX5_standLifted 3 (some .int), Cond.methodLink RX5 42 yX5_lowestEmptyPlace, Cond.instanceMethod yX5_lowestEmptyPlace, Cond.selects RX5 yX5_lowestEmptyPlace yX5_lowestEmptyPlace, Cond.code yX5_lowestEmptyPlace cX5_lowestEmptyPlace 2 (some .int)]
def wsX5_lift : List Cond := .code yX5_lift cX5_lift 6 (some .int) :: ((wsX5_lift_r1 ++ wsX5_lift_r2) ++ wsX50 ++ wsX10 ++ wsX20 ++ wsX40)
def wsX5_refusalOfRows : List Cond := .code yX5_refusalOfRows cX5_refusalOfRows 3 (some .int) :: ([.classLink RX5 120 "SpanMover$Thing", .classLink RX5 51 "SpanMover$ObjectRow", .fieldLink RX5 62 "SpanMover$Item" "kind" "I"] ++ wsX10 ++ wsX20 ++ wsX40)
def wsX5_moveSpan_r1 : List Cond := [Cond.classLink RX5 46 "SpanMover$NumberRow", Cond.fieldLink RX5 30 "SpanMover" "lastMoved" "I", Cond.classLink RX5 51 "SpanMover$ObjectRow", Cond.methodLink RX5 152 ⟨"SpanMover$Row", "hasSpan", "(II)Z"⟩, Cond.sameMethod "SpanMover$Row" "SpanMover$Row" "hasSpan" "(II)Z", Cond.selects RX1 ⟨"SpanMover$Row", "hasSpan", "(II)Z"⟩ yX3_hasSpan, Cond.instanceMethod yX3_hasSpan, Cond.initialized RX3, Cond.code yX3_hasSpan cX3_hasSpan 3 (some .boolean), Cond.fieldLink RX3 7 "SpanMover$Row" "size" "I", Cond.selects RX2 ⟨"SpanMover$Row", "hasSpan", "(II)Z"⟩ yX3_hasSpan, Cond.methodLink RX5 156 yX1_takeSpan, Cond.instanceMethod yX1_takeSpan, Cond.selects RX1 yX1_takeSpan yX1_takeSpan, Cond.initialized RX1, Cond.code yX1_takeSpan cX1_takeSpan 5 none, Cond.fieldLink RX1 9 "SpanMover$NumberRow" "numbers" "[J", Cond.methodLink RX1 23 arraycopyName, Cond.native arraycopyName, Cond.static arraycopyName, Cond.initialized "java/lang/System", Cond.fieldLink RX1 19 "SpanMover$NumberRow" "digestKnown" "Z", Cond.methodLink RX5 160 yX2_takeFittingSpan, Cond.instanceMethod yX2_takeFittingSpan]
def wsX5_moveSpan_r2 : List Cond := [Cond.selects RX2 yX2_takeFittingSpan yX2_takeFittingSpan, Cond.initialized RX2, Cond.code yX2_takeFittingSpan cX2_takeFittingSpan 6 (some .int), Cond.fieldLink RX2 11 "SpanMover$ObjectRow" "objects" "[LSpanMover$Item;", Cond.methodLink RX2 26 arraycopyName, Cond.methodLink RX2 22 yX2_isFitFor, Cond.instanceMethod yX2_isFitFor, Cond.selects RX2 yX2_isFitFor yX2_isFitFor, Cond.code yX2_isFitFor cX2_isFitFor 2 (some .boolean), Cond.fieldLink RX2 17 "SpanMover$ObjectRow" "kind" "I", Cond.sameField "SpanMover$ObjectRow" "SpanMover$Item" "kind" "I", Cond.fieldLink RX2 21 "SpanMover$Item" "kind" "I"]
def wsX5_moveSpan : List Cond := .code yX5_moveSpan cX5_moveSpan 8 (some .int) :: ((wsX5_moveSpan_r1 ++ wsX5_moveSpan_r2) ++ wsX50 ++ wsX10 ++ wsX20 ++ wsX40)
def wsX5_doMove_r1 : List Cond := [Cond.fieldLink RX5 30 "SpanMover" "lastMoved" "I", Cond.fieldLink RX5 33 "SpanMover" "lastEnded" "I", Cond.classLink RX5 65 "SpanMover$Row", Cond.fieldLink RX5 36 "SpanMover" "movesDone" "I", Cond.fieldLink RX5 39 "SpanMover" "movesRefused" "I", Cond.methodLink RX5 58 yX5_itemAt, Cond.instanceMethod yX5_itemAt, Cond.selects RX5 yX5_itemAt yX5_itemAt, Cond.initialized RX5, Cond.code yX5_itemAt cX5_itemAt 2 (some (.object "SpanMover$Item")), Cond.fieldLink RX5 11 "SpanMover" "shelf" "[LSpanMover$Item;", Cond.methodLink RX5 144 yX5_refusalOfRows, Cond.static yX5_refusalOfRows, Cond.code yX5_refusalOfRows cX5_refusalOfRows 3 (some .int), Cond.classLink RX5 120 "SpanMover$Thing", Cond.classLink RX5 51 "SpanMover$ObjectRow", Cond.fieldLink RX5 62 "SpanMover$Item" "kind" "I", Cond.methodLink RX5 148 yX5_moveSpan, Cond.instanceMethod yX5_moveSpan, Cond.selects RX5 yX5_moveSpan yX5_moveSpan, Cond.code yX5_moveSpan cX5_moveSpan 8 (some .int), Cond.classLink RX5 46 "SpanMover$NumberRow", Cond.methodLink RX5 152 ⟨"SpanMover$Row", "hasSpan", "(II)Z"⟩, Cond.sameMethod "SpanMover$Row" "SpanMover$Row" "hasSpan" "(II)Z"]
def wsX5_doMove_r2 : List Cond := [Cond.selects RX1 ⟨"SpanMover$Row", "hasSpan", "(II)Z"⟩ yX3_hasSpan, Cond.instanceMethod yX3_hasSpan, Cond.initialized RX3, Cond.code yX3_hasSpan cX3_hasSpan 3 (some .boolean), Cond.fieldLink RX3 7 "SpanMover$Row" "size" "I", Cond.selects RX2 ⟨"SpanMover$Row", "hasSpan", "(II)Z"⟩ yX3_hasSpan, Cond.methodLink RX5 156 yX1_takeSpan, Cond.instanceMethod yX1_takeSpan, Cond.selects RX1 yX1_takeSpan yX1_takeSpan, Cond.initialized RX1, Cond.code yX1_takeSpan cX1_takeSpan 5 none, Cond.fieldLink RX1 9 "SpanMover$NumberRow" "numbers" "[J", Cond.methodLink RX1 23 arraycopyName, Cond.native arraycopyName, Cond.static arraycopyName, Cond.initialized "java/lang/System", Cond.fieldLink RX1 19 "SpanMover$NumberRow" "digestKnown" "Z", Cond.methodLink RX5 160 yX2_takeFittingSpan, Cond.instanceMethod yX2_takeFittingSpan, Cond.selects RX2 yX2_takeFittingSpan yX2_takeFittingSpan, Cond.initialized RX2, Cond.code yX2_takeFittingSpan cX2_takeFittingSpan 6 (some .int), Cond.fieldLink RX2 11 "SpanMover$ObjectRow" "objects" "[LSpanMover$Item;", Cond.methodLink RX2 26 arraycopyName]
def wsX5_doMove_r3 : List Cond := [Cond.methodLink RX2 22 yX2_isFitFor, Cond.instanceMethod yX2_isFitFor, Cond.selects RX2 yX2_isFitFor yX2_isFitFor, Cond.code yX2_isFitFor cX2_isFitFor 2 (some .boolean), Cond.fieldLink RX2 17 "SpanMover$ObjectRow" "kind" "I", Cond.sameField "SpanMover$ObjectRow" "SpanMover$Item" "kind" "I", Cond.fieldLink RX2 21 "SpanMover$Item" "kind" "I"]
def wsX5_doMove : List Cond := .code yX5_doMove cX5_doMove 10 (some .int) :: ((wsX5_doMove_r1 ++ (wsX5_doMove_r2 ++ wsX5_doMove_r3)) ++ wsX50 ++ wsX10 ++ wsX20 ++ wsX40)
def wsX5_move_r1 : List Cond := [Cond.methodLink RX5 105 yX5_doMove, Cond.instanceMethod yX5_doMove, Cond.selects RX5 yX5_doMove yX5_doMove, Cond.initialized RX5, Cond.code yX5_doMove cX5_doMove 10 (some .int), Cond.fieldLink RX5 30 "SpanMover" "lastMoved" "I", Cond.fieldLink RX5 33 "SpanMover" "lastEnded" "I", Cond.classLink RX5 65 "SpanMover$Row", Cond.fieldLink RX5 36 "SpanMover" "movesDone" "I", Cond.fieldLink RX5 39 "SpanMover" "movesRefused" "I", Cond.methodLink RX5 58 yX5_itemAt, Cond.instanceMethod yX5_itemAt, Cond.selects RX5 yX5_itemAt yX5_itemAt, Cond.code yX5_itemAt cX5_itemAt 2 (some (.object "SpanMover$Item")), Cond.fieldLink RX5 11 "SpanMover" "shelf" "[LSpanMover$Item;", Cond.methodLink RX5 144 yX5_refusalOfRows, Cond.static yX5_refusalOfRows, Cond.code yX5_refusalOfRows cX5_refusalOfRows 3 (some .int), Cond.classLink RX5 120 "SpanMover$Thing", Cond.classLink RX5 51 "SpanMover$ObjectRow", Cond.fieldLink RX5 62 "SpanMover$Item" "kind" "I", Cond.methodLink RX5 148 yX5_moveSpan, Cond.instanceMethod yX5_moveSpan, Cond.selects RX5 yX5_moveSpan yX5_moveSpan]
def wsX5_move_r2 : List Cond := [Cond.code yX5_moveSpan cX5_moveSpan 8 (some .int), Cond.classLink RX5 46 "SpanMover$NumberRow", Cond.methodLink RX5 152 ⟨"SpanMover$Row", "hasSpan", "(II)Z"⟩, Cond.sameMethod "SpanMover$Row" "SpanMover$Row" "hasSpan" "(II)Z", Cond.selects RX1 ⟨"SpanMover$Row", "hasSpan", "(II)Z"⟩ yX3_hasSpan, Cond.instanceMethod yX3_hasSpan, Cond.initialized RX3, Cond.code yX3_hasSpan cX3_hasSpan 3 (some .boolean), Cond.fieldLink RX3 7 "SpanMover$Row" "size" "I", Cond.selects RX2 ⟨"SpanMover$Row", "hasSpan", "(II)Z"⟩ yX3_hasSpan, Cond.methodLink RX5 156 yX1_takeSpan, Cond.instanceMethod yX1_takeSpan, Cond.selects RX1 yX1_takeSpan yX1_takeSpan, Cond.initialized RX1, Cond.code yX1_takeSpan cX1_takeSpan 5 none, Cond.fieldLink RX1 9 "SpanMover$NumberRow" "numbers" "[J", Cond.methodLink RX1 23 arraycopyName, Cond.native arraycopyName, Cond.static arraycopyName, Cond.initialized "java/lang/System", Cond.fieldLink RX1 19 "SpanMover$NumberRow" "digestKnown" "Z", Cond.methodLink RX5 160 yX2_takeFittingSpan, Cond.instanceMethod yX2_takeFittingSpan, Cond.selects RX2 yX2_takeFittingSpan yX2_takeFittingSpan]
def wsX5_move_r3 : List Cond := [Cond.initialized RX2, Cond.code yX2_takeFittingSpan cX2_takeFittingSpan 6 (some .int), Cond.fieldLink RX2 11 "SpanMover$ObjectRow" "objects" "[LSpanMover$Item;", Cond.methodLink RX2 26 arraycopyName, Cond.methodLink RX2 22 yX2_isFitFor, Cond.instanceMethod yX2_isFitFor, Cond.selects RX2 yX2_isFitFor yX2_isFitFor, Cond.code yX2_isFitFor cX2_isFitFor 2 (some .boolean), Cond.fieldLink RX2 17 "SpanMover$ObjectRow" "kind" "I", Cond.sameField "SpanMover$ObjectRow" "SpanMover$Item" "kind" "I", Cond.fieldLink RX2 21 "SpanMover$Item" "kind" "I"]
def wsX5_move : List Cond := .code yX5_move cX5_move 6 (some .int) :: ((wsX5_move_r1 ++ (wsX5_move_r2 ++ wsX5_move_r3)) ++ wsX50 ++ wsX10 ++ wsX20 ++ wsX40)
def wsX5_moved : List Cond := .code yX5_moved cX5_moved 1 (some .int) :: ([.fieldLink RX5 30 "SpanMover" "lastMoved" "I"] ++ wsX50)
def wsX5_plan : List Cond := .code yX5_plan cX5_plan 7 (some .int) :: ([.fieldLink RX5 19 "SpanMover" "planned" "I", .fieldLink RX5 15 "SpanMover" "list" "[I"] ++ wsX50)
def wsX5_doPlanned_r1 : List Cond := [Cond.fieldLink RX5 15 "SpanMover" "list" "[I", Cond.methodLink RX5 105 yX5_doMove, Cond.instanceMethod yX5_doMove, Cond.selects RX5 yX5_doMove yX5_doMove, Cond.initialized RX5, Cond.code yX5_doMove cX5_doMove 10 (some .int), Cond.fieldLink RX5 30 "SpanMover" "lastMoved" "I", Cond.fieldLink RX5 33 "SpanMover" "lastEnded" "I", Cond.classLink RX5 65 "SpanMover$Row", Cond.fieldLink RX5 36 "SpanMover" "movesDone" "I", Cond.fieldLink RX5 39 "SpanMover" "movesRefused" "I", Cond.methodLink RX5 58 yX5_itemAt, Cond.instanceMethod yX5_itemAt, Cond.selects RX5 yX5_itemAt yX5_itemAt, Cond.code yX5_itemAt cX5_itemAt 2 (some (.object "SpanMover$Item")), Cond.fieldLink RX5 11 "SpanMover" "shelf" "[LSpanMover$Item;", Cond.methodLink RX5 144 yX5_refusalOfRows, Cond.static yX5_refusalOfRows, Cond.code yX5_refusalOfRows cX5_refusalOfRows 3 (some .int), Cond.classLink RX5 120 "SpanMover$Thing", Cond.classLink RX5 51 "SpanMover$ObjectRow", Cond.fieldLink RX5 62 "SpanMover$Item" "kind" "I", Cond.methodLink RX5 148 yX5_moveSpan, Cond.instanceMethod yX5_moveSpan]
def wsX5_doPlanned_r2 : List Cond := [Cond.selects RX5 yX5_moveSpan yX5_moveSpan, Cond.code yX5_moveSpan cX5_moveSpan 8 (some .int), Cond.classLink RX5 46 "SpanMover$NumberRow", Cond.methodLink RX5 152 ⟨"SpanMover$Row", "hasSpan", "(II)Z"⟩, Cond.sameMethod "SpanMover$Row" "SpanMover$Row" "hasSpan" "(II)Z", Cond.selects RX1 ⟨"SpanMover$Row", "hasSpan", "(II)Z"⟩ yX3_hasSpan, Cond.instanceMethod yX3_hasSpan, Cond.initialized RX3, Cond.code yX3_hasSpan cX3_hasSpan 3 (some .boolean), Cond.fieldLink RX3 7 "SpanMover$Row" "size" "I", Cond.selects RX2 ⟨"SpanMover$Row", "hasSpan", "(II)Z"⟩ yX3_hasSpan, Cond.methodLink RX5 156 yX1_takeSpan, Cond.instanceMethod yX1_takeSpan, Cond.selects RX1 yX1_takeSpan yX1_takeSpan, Cond.initialized RX1, Cond.code yX1_takeSpan cX1_takeSpan 5 none, Cond.fieldLink RX1 9 "SpanMover$NumberRow" "numbers" "[J", Cond.methodLink RX1 23 arraycopyName, Cond.native arraycopyName, Cond.static arraycopyName, Cond.initialized "java/lang/System", Cond.fieldLink RX1 19 "SpanMover$NumberRow" "digestKnown" "Z", Cond.methodLink RX5 160 yX2_takeFittingSpan, Cond.instanceMethod yX2_takeFittingSpan]
def wsX5_doPlanned_r3 : List Cond := [Cond.selects RX2 yX2_takeFittingSpan yX2_takeFittingSpan, Cond.initialized RX2, Cond.code yX2_takeFittingSpan cX2_takeFittingSpan 6 (some .int), Cond.fieldLink RX2 11 "SpanMover$ObjectRow" "objects" "[LSpanMover$Item;", Cond.methodLink RX2 26 arraycopyName, Cond.methodLink RX2 22 yX2_isFitFor, Cond.instanceMethod yX2_isFitFor, Cond.selects RX2 yX2_isFitFor yX2_isFitFor, Cond.code yX2_isFitFor cX2_isFitFor 2 (some .boolean), Cond.fieldLink RX2 17 "SpanMover$ObjectRow" "kind" "I", Cond.sameField "SpanMover$ObjectRow" "SpanMover$Item" "kind" "I", Cond.fieldLink RX2 21 "SpanMover$Item" "kind" "I"]
def wsX5_doPlanned : List Cond := .code yX5_doPlanned cX5_doPlanned 3 (some .int) :: ((wsX5_doPlanned_r1 ++ (wsX5_doPlanned_r2 ++ wsX5_doPlanned_r3)) ++ wsX50 ++ wsX10 ++ wsX20 ++ wsX40)
def wsX5_run_r1 : List Cond := [Cond.fieldLink RX5 19 "SpanMover" "planned" "I", Cond.methodLink RX5 109 yX5_doPlanned, Cond.instanceMethod yX5_doPlanned, Cond.selects RX5 yX5_doPlanned yX5_doPlanned, Cond.initialized RX5, Cond.code yX5_doPlanned cX5_doPlanned 3 (some .int), Cond.fieldLink RX5 15 "SpanMover" "list" "[I", Cond.methodLink RX5 105 yX5_doMove, Cond.instanceMethod yX5_doMove, Cond.selects RX5 yX5_doMove yX5_doMove, Cond.code yX5_doMove cX5_doMove 10 (some .int), Cond.fieldLink RX5 30 "SpanMover" "lastMoved" "I", Cond.fieldLink RX5 33 "SpanMover" "lastEnded" "I", Cond.classLink RX5 65 "SpanMover$Row", Cond.fieldLink RX5 36 "SpanMover" "movesDone" "I", Cond.fieldLink RX5 39 "SpanMover" "movesRefused" "I", Cond.methodLink RX5 58 yX5_itemAt, Cond.instanceMethod yX5_itemAt, Cond.selects RX5 yX5_itemAt yX5_itemAt, Cond.code yX5_itemAt cX5_itemAt 2 (some (.object "SpanMover$Item")), Cond.fieldLink RX5 11 "SpanMover" "shelf" "[LSpanMover$Item;", Cond.methodLink RX5 144 yX5_refusalOfRows, Cond.static yX5_refusalOfRows, Cond.code yX5_refusalOfRows cX5_refusalOfRows 3 (some .int)]
def wsX5_run_r2 : List Cond := [Cond.classLink RX5 120 "SpanMover$Thing", Cond.classLink RX5 51 "SpanMover$ObjectRow", Cond.fieldLink RX5 62 "SpanMover$Item" "kind" "I", Cond.methodLink RX5 148 yX5_moveSpan, Cond.instanceMethod yX5_moveSpan, Cond.selects RX5 yX5_moveSpan yX5_moveSpan, Cond.code yX5_moveSpan cX5_moveSpan 8 (some .int), Cond.classLink RX5 46 "SpanMover$NumberRow", Cond.methodLink RX5 152 ⟨"SpanMover$Row", "hasSpan", "(II)Z"⟩, Cond.sameMethod "SpanMover$Row" "SpanMover$Row" "hasSpan" "(II)Z", Cond.selects RX1 ⟨"SpanMover$Row", "hasSpan", "(II)Z"⟩ yX3_hasSpan, Cond.instanceMethod yX3_hasSpan, Cond.initialized RX3, Cond.code yX3_hasSpan cX3_hasSpan 3 (some .boolean), Cond.fieldLink RX3 7 "SpanMover$Row" "size" "I", Cond.selects RX2 ⟨"SpanMover$Row", "hasSpan", "(II)Z"⟩ yX3_hasSpan, Cond.methodLink RX5 156 yX1_takeSpan, Cond.instanceMethod yX1_takeSpan, Cond.selects RX1 yX1_takeSpan yX1_takeSpan, Cond.initialized RX1, Cond.code yX1_takeSpan cX1_takeSpan 5 none, Cond.fieldLink RX1 9 "SpanMover$NumberRow" "numbers" "[J", Cond.methodLink RX1 23 arraycopyName, Cond.native arraycopyName]
def wsX5_run_r3 : List Cond := [Cond.static arraycopyName, Cond.initialized "java/lang/System", Cond.fieldLink RX1 19 "SpanMover$NumberRow" "digestKnown" "Z", Cond.methodLink RX5 160 yX2_takeFittingSpan, Cond.instanceMethod yX2_takeFittingSpan, Cond.selects RX2 yX2_takeFittingSpan yX2_takeFittingSpan, Cond.initialized RX2, Cond.code yX2_takeFittingSpan cX2_takeFittingSpan 6 (some .int), Cond.fieldLink RX2 11 "SpanMover$ObjectRow" "objects" "[LSpanMover$Item;", Cond.methodLink RX2 26 arraycopyName, Cond.methodLink RX2 22 yX2_isFitFor, Cond.instanceMethod yX2_isFitFor, Cond.selects RX2 yX2_isFitFor yX2_isFitFor, Cond.code yX2_isFitFor cX2_isFitFor 2 (some .boolean), Cond.fieldLink RX2 17 "SpanMover$ObjectRow" "kind" "I", Cond.sameField "SpanMover$ObjectRow" "SpanMover$Item" "kind" "I", Cond.fieldLink RX2 21 "SpanMover$Item" "kind" "I"]
def wsX5_run : List Cond := .code yX5_run cX5_run 2 (some .int) :: ((wsX5_run_r1 ++ (wsX5_run_r2 ++ wsX5_run_r3)) ++ wsX50 ++ wsX10 ++ wsX20 ++ wsX40)
def wsX5_ended : List Cond := .code yX5_ended cX5_ended 1 (some .int) :: ([.fieldLink RX5 33 "SpanMover" "lastEnded" "I"] ++ wsX50)
def wsX5_clear : List Cond := .code yX5_clear cX5_clear 2 (some .int) :: ([.fieldLink RX5 11 "SpanMover" "shelf" "[LSpanMover$Item;", .methodLink RX5 58 yX5_itemAt, .instanceMethod yX5_itemAt, .selects RX5 yX5_itemAt yX5_itemAt, .initialized RX5, .code yX5_itemAt cX5_itemAt 2 (some (.object "SpanMover$Item"))] ++ wsX50)
def wsX5_same : List Cond := .code yX5_same cX5_same 5 (some .int) :: ([.methodLink RX5 58 yX5_itemAt, .instanceMethod yX5_itemAt, .selects RX5 yX5_itemAt yX5_itemAt, .initialized RX5, .code yX5_itemAt cX5_itemAt 2 (some (.object "SpanMover$Item")), .fieldLink RX5 11 "SpanMover" "shelf" "[LSpanMover$Item;"] ++ wsX50)
def wsX5_digest_r1 : List Cond := [Cond.classLink RX5 46 "SpanMover$NumberRow", Cond.classLink RX5 51 "SpanMover$ObjectRow", Cond.classLink RX5 120 "SpanMover$Thing", Cond.constantLong RX5 122 (31), Cond.fieldLink RX5 124 "SpanMover$Thing" "kind" "I", Cond.sameField "SpanMover$Thing" "SpanMover$Item" "kind" "I", Cond.fieldLink RX5 125 "SpanMover$Thing" "value" "I", Cond.methodLink RX5 58 yX5_itemAt, Cond.instanceMethod yX5_itemAt, Cond.selects RX5 yX5_itemAt yX5_itemAt, Cond.initialized RX5, Cond.code yX5_itemAt cX5_itemAt 2 (some (.object "SpanMover$Item")), Cond.fieldLink RX5 11 "SpanMover" "shelf" "[LSpanMover$Item;", Cond.methodLink RX5 113 yX1_digestOfNumbers, Cond.instanceMethod yX1_digestOfNumbers, Cond.selects RX1 yX1_digestOfNumbers yX1_digestOfNumbers, Cond.initialized RX1, Cond.code yX1_digestOfNumbers cX1_digestOfNumbers 8 (some .long), Cond.fieldLink RX1 19 "SpanMover$NumberRow" "digestKnown" "Z", Cond.fieldLink RX1 29 "SpanMover$NumberRow" "kind" "I", Cond.sameField "SpanMover$NumberRow" "SpanMover$Item" "kind" "I", Cond.fieldLink RX1 9 "SpanMover$NumberRow" "numbers" "[J", Cond.constantLong RX1 33 (31), Cond.fieldLink RX1 35 "SpanMover$NumberRow" "knownDigest" "J"]
def wsX5_digest_r2 : List Cond := [Cond.methodLink RX5 117 yX2_digestOfObjects, Cond.instanceMethod yX2_digestOfObjects, Cond.selects RX2 yX2_digestOfObjects yX2_digestOfObjects, Cond.initialized RX2, Cond.code yX2_digestOfObjects cX2_digestOfObjects 7 (some .long), Cond.fieldLink RX2 17 "SpanMover$ObjectRow" "kind" "I", Cond.sameField "SpanMover$ObjectRow" "SpanMover$Item" "kind" "I", Cond.fieldLink RX2 11 "SpanMover$ObjectRow" "objects" "[LSpanMover$Item;", Cond.constantLong RX2 32 (31), Cond.methodLink RX2 34 yX2_digestedAs, Cond.static yX2_digestedAs, Cond.code yX2_digestedAs cX2_digestedAs 2 (some .long), Cond.classLink RX2 38 "SpanMover$NumberRow", Cond.methodLink RX2 40 yX1_digestOfNumbers, Cond.static yX5_toldAs, Cond.code yX5_toldAs cX5_toldAs 2 (some .long), Cond.constantLong RX5 137 (4294967296), Cond.constantLong RX5 139 (4294967295), Cond.classLink RX5 65 "SpanMover$Row", Cond.fieldLink RX5 67 "SpanMover$Row" "size" "I", Cond.constantLong RX5 141 (-1)]
def wsX5_digest : List Cond := .code yX5_digest cX5_digest 4 (some .long) :: ((wsX5_digest_r1 ++ wsX5_digest_r2) ++ wsX10 ++ wsX20 ++ wsX40 ++ wsX50)
def wsX5_takenPlaces : List Cond := .code yX5_takenPlaces cX5_takenPlaces 6 (some .int) :: ([.fieldLink RX5 11 "SpanMover" "shelf" "[LSpanMover$Item;"] ++ wsX50)
def wsX5_count : List Cond := .code yX5_count cX5_count 2 (some .int) :: ([.fieldLink RX5 24 "SpanMover" "stock" "I", .fieldLink RX5 19 "SpanMover" "planned" "I", .fieldLink RX5 36 "SpanMover" "movesDone" "I", .fieldLink RX5 39 "SpanMover" "movesRefused" "I", .methodLink RX5 128 yX5_takenPlaces, .instanceMethod yX5_takenPlaces, .selects RX5 yX5_takenPlaces yX5_takenPlaces, .initialized RX5, .code yX5_takenPlaces cX5_takenPlaces 6 (some .int), .fieldLink RX5 11 "SpanMover" "shelf" "[LSpanMover$Item;"] ++ wsX50)
def wsX6_init : List Cond := .code yX6_init cX6_init 1 none :: ([.methodLink RX6 1 objectInit, .instanceMethod objectInit, .code objectInit ⟨#[0xb1]⟩ 1 none, .constant RX6 7 (60000), .arrayClass .long, .fieldLink RX6 8 "SpanMoverModel" "heap" "[J", .arrayClass .int, .fieldLink RX6 14 "SpanMoverModel" "at" "[I", .fieldLink RX6 18 "SpanMoverModel" "list" "[I"] ++ wsX60)
def wsX6_isPlace : List Cond := .code yX6_isPlace cX6_isPlace 1 (some .boolean) :: ([])
def wsX6_in : List Cond := .code yX6_in cX6_in 2 (some .int) :: ([.fieldLink RX6 14 "SpanMoverModel" "at" "[I", .methodLink RX6 21 yX6_isPlace, .static yX6_isPlace, .initialized RX6, .code yX6_isPlace cX6_isPlace 1 (some .boolean)] ++ wsX60)
def wsX6_kind : List Cond := .code yX6_kind cX6_kind 2 (some .int) :: ([.fieldLink RX6 8 "SpanMoverModel" "heap" "[J"] ++ wsX60)
def wsX6_low : List Cond := .code yX6_low cX6_low 2 (some .int) :: ([.fieldLink RX6 8 "SpanMoverModel" "heap" "[J"] ++ wsX60)
def wsX6_isThing : List Cond := .code yX6_isThing cX6_isThing 2 (some .boolean) :: ([.methodLink RX6 25 yX6_kind, .instanceMethod yX6_kind, .selects RX6 yX6_kind yX6_kind, .initialized RX6, .code yX6_kind cX6_kind 2 (some .int), .fieldLink RX6 8 "SpanMoverModel" "heap" "[J"] ++ wsX60)
def wsX6_isOfObjects : List Cond := .code yX6_isOfObjects cX6_isOfObjects 2 (some .boolean) :: ([.methodLink RX6 25 yX6_kind, .instanceMethod yX6_kind, .selects RX6 yX6_kind yX6_kind, .initialized RX6, .code yX6_kind cX6_kind 2 (some .int), .fieldLink RX6 8 "SpanMoverModel" "heap" "[J"] ++ wsX60)
def wsX6_isElement : List Cond := .code yX6_isElement cX6_isElement 3 (some .boolean) :: ([.methodLink RX6 29 yX6_low, .instanceMethod yX6_low, .selects RX6 yX6_low yX6_low, .initialized RX6, .code yX6_low cX6_low 2 (some .int), .fieldLink RX6 8 "SpanMoverModel" "heap" "[J"] ++ wsX60)
def wsX6_object : List Cond := .code yX6_object cX6_object 3 (some .int) :: ([.fieldLink RX6 8 "SpanMoverModel" "heap" "[J"] ++ wsX60)
def wsX6_lowestEmpty : List Cond := .code yX6_lowestEmpty cX6_lowestEmpty 2 (some .int) :: ([.fieldLink RX6 14 "SpanMoverModel" "at" "[I"] ++ wsX60)
def wsX6_stand : List Cond := .code yX6_stand cX6_stand 4 (some .int) :: ([.fieldLink RX6 8 "SpanMoverModel" "heap" "[J", .fieldLink RX6 32 "SpanMoverModel" "used" "I", .constantLong RX6 36 (4294967295), .fieldLink RX6 14 "SpanMoverModel" "at" "[I"] ++ wsX60)
def wsX6_row : List Cond := .code yX6_row cX6_row 4 (some .int) :: ([.constant RX6 7 (60000), .fieldLink RX6 32 "SpanMoverModel" "used" "I", .methodLink RX6 38 yX6_lowestEmpty, .instanceMethod yX6_lowestEmpty, .selects RX6 yX6_lowestEmpty yX6_lowestEmpty, .initialized RX6, .code yX6_lowestEmpty cX6_lowestEmpty 2 (some .int), .fieldLink RX6 14 "SpanMoverModel" "at" "[I", .methodLink RX6 42 yX6_stand, .instanceMethod yX6_stand, .selects RX6 yX6_stand yX6_stand, .code yX6_stand cX6_stand 4 (some .int), .fieldLink RX6 8 "SpanMoverModel" "heap" "[J", .constantLong RX6 36 (4294967295)] ++ wsX60)
def wsX6_thing : List Cond := .code yX6_thing cX6_thing 4 (some .int) :: ([.fieldLink RX6 32 "SpanMoverModel" "used" "I", .constant RX6 7 (60000), .methodLink RX6 38 yX6_lowestEmpty, .instanceMethod yX6_lowestEmpty, .selects RX6 yX6_lowestEmpty yX6_lowestEmpty, .initialized RX6, .code yX6_lowestEmpty cX6_lowestEmpty 2 (some .int), .fieldLink RX6 14 "SpanMoverModel" "at" "[I", .methodLink RX6 42 yX6_stand, .instanceMethod yX6_stand, .selects RX6 yX6_stand yX6_stand, .code yX6_stand cX6_stand 4 (some .int), .fieldLink RX6 8 "SpanMoverModel" "heap" "[J", .constantLong RX6 36 (4294967295)] ++ wsX60)
def wsX6_mark : List Cond := .code yX6_mark cX6_mark 2 (some .int) :: ([.methodLink RX6 46 yX6_thing, .instanceMethod yX6_thing, .selects RX6 yX6_thing yX6_thing, .initialized RX6, .code yX6_thing cX6_thing 4 (some .int), .fieldLink RX6 32 "SpanMoverModel" "used" "I", .constant RX6 7 (60000), .methodLink RX6 38 yX6_lowestEmpty, .instanceMethod yX6_lowestEmpty, .selects RX6 yX6_lowestEmpty yX6_lowestEmpty, .code yX6_lowestEmpty cX6_lowestEmpty 2 (some .int), .fieldLink RX6 14 "SpanMoverModel" "at" "[I", .methodLink RX6 42 yX6_stand, .instanceMethod yX6_stand, .selects RX6 yX6_stand yX6_stand, .code yX6_stand cX6_stand 4 (some .int), .fieldLink RX6 8 "SpanMoverModel" "heap" "[J", .constantLong RX6 36 (4294967295)] ++ wsX60)
def wsX6_seal : List Cond := .code yX6_seal cX6_seal 2 (some .int) :: ([.methodLink RX6 46 yX6_thing, .instanceMethod yX6_thing, .selects RX6 yX6_thing yX6_thing, .initialized RX6, .code yX6_thing cX6_thing 4 (some .int), .fieldLink RX6 32 "SpanMoverModel" "used" "I", .constant RX6 7 (60000), .methodLink RX6 38 yX6_lowestEmpty, .instanceMethod yX6_lowestEmpty, .selects RX6 yX6_lowestEmpty yX6_lowestEmpty, .code yX6_lowestEmpty cX6_lowestEmpty 2 (some .int), .fieldLink RX6 14 "SpanMoverModel" "at" "[I", .methodLink RX6 42 yX6_stand, .instanceMethod yX6_stand, .selects RX6 yX6_stand yX6_stand, .code yX6_stand cX6_stand 4 (some .int), .fieldLink RX6 8 "SpanMoverModel" "heap" "[J", .constantLong RX6 36 (4294967295)] ++ wsX60)
def wsX6_kindOf : List Cond := .code yX6_kindOf cX6_kindOf 2 (some .int) :: ([.methodLink RX6 50 yX6_in, .instanceMethod yX6_in, .selects RX6 yX6_in yX6_in, .initialized RX6, .code yX6_in cX6_in 2 (some .int), .fieldLink RX6 14 "SpanMoverModel" "at" "[I", .methodLink RX6 21 yX6_isPlace, .static yX6_isPlace, .code yX6_isPlace cX6_isPlace 1 (some .boolean), .methodLink RX6 25 yX6_kind, .instanceMethod yX6_kind, .selects RX6 yX6_kind yX6_kind, .code yX6_kind cX6_kind 2 (some .int), .fieldLink RX6 8 "SpanMoverModel" "heap" "[J"] ++ wsX60)
def wsX6_length : List Cond := .code yX6_length cX6_length 3 (some .int) :: ([.methodLink RX6 50 yX6_in, .instanceMethod yX6_in, .selects RX6 yX6_in yX6_in, .initialized RX6, .code yX6_in cX6_in 2 (some .int), .fieldLink RX6 14 "SpanMoverModel" "at" "[I", .methodLink RX6 21 yX6_isPlace, .static yX6_isPlace, .code yX6_isPlace cX6_isPlace 1 (some .boolean), .methodLink RX6 53 yX6_isThing, .instanceMethod yX6_isThing, .selects RX6 yX6_isThing yX6_isThing, .code yX6_isThing cX6_isThing 2 (some .boolean), .methodLink RX6 25 yX6_kind, .instanceMethod yX6_kind, .selects RX6 yX6_kind yX6_kind, .code yX6_kind cX6_kind 2 (some .int), .fieldLink RX6 8 "SpanMoverModel" "heap" "[J", .methodLink RX6 29 yX6_low, .instanceMethod yX6_low, .selects RX6 yX6_low yX6_low, .code yX6_low cX6_low 2 (some .int)] ++ wsX60)
def wsX6_rounded : List Cond := .code yX6_rounded cX6_rounded 13 (some .long) :: ([.constantLong RX6 56 (-9007199254740992), .constantLong RX6 58 (9007199254740992), .constantLong RX6 60 (-9223372036854775808), .constantLong RX6 62 (9007199254740991), .constantLong RX6 64 (9223372036854775807)])
def wsX6_fitted : List Cond := .code yX6_fitted cX6_fitted 3 (some .long) :: ([.methodLink RX6 66 yX6_rounded, .static yX6_rounded, .initialized RX6, .code yX6_rounded cX6_rounded 13 (some .long), .constantLong RX6 56 (-9007199254740992), .constantLong RX6 58 (9007199254740992), .constantLong RX6 60 (-9223372036854775808), .constantLong RX6 62 (9007199254740991), .constantLong RX6 64 (9223372036854775807)])
def wsX6_set_r1 : List Cond := [Cond.fieldLink RX6 8 "SpanMoverModel" "heap" "[J", Cond.methodLink RX6 50 yX6_in, Cond.instanceMethod yX6_in, Cond.selects RX6 yX6_in yX6_in, Cond.initialized RX6, Cond.code yX6_in cX6_in 2 (some .int), Cond.fieldLink RX6 14 "SpanMoverModel" "at" "[I", Cond.methodLink RX6 21 yX6_isPlace, Cond.static yX6_isPlace, Cond.code yX6_isPlace cX6_isPlace 1 (some .boolean), Cond.methodLink RX6 53 yX6_isThing, Cond.instanceMethod yX6_isThing, Cond.selects RX6 yX6_isThing yX6_isThing, Cond.code yX6_isThing cX6_isThing 2 (some .boolean), Cond.methodLink RX6 25 yX6_kind, Cond.instanceMethod yX6_kind, Cond.selects RX6 yX6_kind yX6_kind, Cond.code yX6_kind cX6_kind 2 (some .int), Cond.methodLink RX6 70 yX6_isOfObjects, Cond.instanceMethod yX6_isOfObjects, Cond.selects RX6 yX6_isOfObjects yX6_isOfObjects, Cond.code yX6_isOfObjects cX6_isOfObjects 2 (some .boolean), Cond.methodLink RX6 73 yX6_isElement, Cond.instanceMethod yX6_isElement]
def wsX6_set_r2 : List Cond := [Cond.selects RX6 yX6_isElement yX6_isElement, Cond.code yX6_isElement cX6_isElement 3 (some .boolean), Cond.methodLink RX6 29 yX6_low, Cond.instanceMethod yX6_low, Cond.selects RX6 yX6_low yX6_low, Cond.code yX6_low cX6_low 2 (some .int), Cond.methodLink RX6 77 yX6_fitted, Cond.static yX6_fitted, Cond.code yX6_fitted cX6_fitted 3 (some .long), Cond.methodLink RX6 66 yX6_rounded, Cond.static yX6_rounded, Cond.code yX6_rounded cX6_rounded 13 (some .long), Cond.constantLong RX6 56 (-9007199254740992), Cond.constantLong RX6 58 (9007199254740992), Cond.constantLong RX6 60 (-9223372036854775808), Cond.constantLong RX6 62 (9007199254740991), Cond.constantLong RX6 64 (9223372036854775807)]
def wsX6_set : List Cond := .code yX6_set cX6_set 6 (some .int) :: ((wsX6_set_r1 ++ wsX6_set_r2) ++ wsX60)
def wsX6_fits : List Cond := .code yX6_fits cX6_fits 4 (some .boolean) :: ([.methodLink RX6 25 yX6_kind, .instanceMethod yX6_kind, .selects RX6 yX6_kind yX6_kind, .initialized RX6, .code yX6_kind cX6_kind 2 (some .int), .fieldLink RX6 8 "SpanMoverModel" "heap" "[J"] ++ wsX60)
def wsX6_setThing_r1 : List Cond := [Cond.fieldLink RX6 8 "SpanMoverModel" "heap" "[J", Cond.methodLink RX6 50 yX6_in, Cond.instanceMethod yX6_in, Cond.selects RX6 yX6_in yX6_in, Cond.initialized RX6, Cond.code yX6_in cX6_in 2 (some .int), Cond.fieldLink RX6 14 "SpanMoverModel" "at" "[I", Cond.methodLink RX6 21 yX6_isPlace, Cond.static yX6_isPlace, Cond.code yX6_isPlace cX6_isPlace 1 (some .boolean), Cond.methodLink RX6 53 yX6_isThing, Cond.instanceMethod yX6_isThing, Cond.selects RX6 yX6_isThing yX6_isThing, Cond.code yX6_isThing cX6_isThing 2 (some .boolean), Cond.methodLink RX6 25 yX6_kind, Cond.instanceMethod yX6_kind, Cond.selects RX6 yX6_kind yX6_kind, Cond.code yX6_kind cX6_kind 2 (some .int), Cond.methodLink RX6 70 yX6_isOfObjects, Cond.instanceMethod yX6_isOfObjects, Cond.selects RX6 yX6_isOfObjects yX6_isOfObjects, Cond.code yX6_isOfObjects cX6_isOfObjects 2 (some .boolean), Cond.methodLink RX6 73 yX6_isElement, Cond.instanceMethod yX6_isElement]
def wsX6_setThing_r2 : List Cond := [Cond.selects RX6 yX6_isElement yX6_isElement, Cond.code yX6_isElement cX6_isElement 3 (some .boolean), Cond.methodLink RX6 29 yX6_low, Cond.instanceMethod yX6_low, Cond.selects RX6 yX6_low yX6_low, Cond.code yX6_low cX6_low 2 (some .int), Cond.methodLink RX6 81 yX6_fits, Cond.instanceMethod yX6_fits, Cond.selects RX6 yX6_fits yX6_fits, Cond.code yX6_fits cX6_fits 4 (some .boolean)]
def wsX6_setThing : List Cond := .code yX6_setThing cX6_setThing 6 (some .int) :: ((wsX6_setThing_r1 ++ wsX6_setThing_r2) ++ wsX60)
def wsX6_told : List Cond := .code yX6_told cX6_told 4 (some .long) :: ([.fieldLink RX6 8 "SpanMoverModel" "heap" "[J", .constantLong RX6 87 (-1), .methodLink RX6 70 yX6_isOfObjects, .instanceMethod yX6_isOfObjects, .selects RX6 yX6_isOfObjects yX6_isOfObjects, .initialized RX6, .code yX6_isOfObjects cX6_isOfObjects 2 (some .boolean), .methodLink RX6 25 yX6_kind, .instanceMethod yX6_kind, .selects RX6 yX6_kind yX6_kind, .code yX6_kind cX6_kind 2 (some .int), .methodLink RX6 84 yX6_object, .instanceMethod yX6_object, .selects RX6 yX6_object yX6_object, .code yX6_object cX6_object 3 (some .int), .methodLink RX6 29 yX6_low, .instanceMethod yX6_low, .selects RX6 yX6_low yX6_low, .code yX6_low cX6_low 2 (some .int)] ++ wsX60)
def wsX6_refusal : List Cond := .code yX6_refusal cX6_refusal 3 (some .int) :: ([.methodLink RX6 53 yX6_isThing, .instanceMethod yX6_isThing, .selects RX6 yX6_isThing yX6_isThing, .initialized RX6, .code yX6_isThing cX6_isThing 2 (some .boolean), .methodLink RX6 25 yX6_kind, .instanceMethod yX6_kind, .selects RX6 yX6_kind yX6_kind, .code yX6_kind cX6_kind 2 (some .int), .fieldLink RX6 8 "SpanMoverModel" "heap" "[J", .methodLink RX6 73 yX6_isElement, .instanceMethod yX6_isElement, .selects RX6 yX6_isElement yX6_isElement, .code yX6_isElement cX6_isElement 3 (some .boolean), .methodLink RX6 29 yX6_low, .instanceMethod yX6_low, .selects RX6 yX6_low yX6_low, .code yX6_low cX6_low 2 (some .int)] ++ wsX60)
def wsX6_get_r1 : List Cond := [Cond.fieldLink RX6 92 "SpanMoverModel" "why" "I", Cond.methodLink RX6 50 yX6_in, Cond.instanceMethod yX6_in, Cond.selects RX6 yX6_in yX6_in, Cond.initialized RX6, Cond.code yX6_in cX6_in 2 (some .int), Cond.fieldLink RX6 14 "SpanMoverModel" "at" "[I", Cond.methodLink RX6 21 yX6_isPlace, Cond.static yX6_isPlace, Cond.code yX6_isPlace cX6_isPlace 1 (some .boolean), Cond.methodLink RX6 89 yX6_refusal, Cond.instanceMethod yX6_refusal, Cond.selects RX6 yX6_refusal yX6_refusal, Cond.code yX6_refusal cX6_refusal 3 (some .int), Cond.methodLink RX6 53 yX6_isThing, Cond.instanceMethod yX6_isThing, Cond.selects RX6 yX6_isThing yX6_isThing, Cond.code yX6_isThing cX6_isThing 2 (some .boolean), Cond.methodLink RX6 25 yX6_kind, Cond.instanceMethod yX6_kind, Cond.selects RX6 yX6_kind yX6_kind, Cond.code yX6_kind cX6_kind 2 (some .int), Cond.fieldLink RX6 8 "SpanMoverModel" "heap" "[J", Cond.methodLink RX6 73 yX6_isElement]
def wsX6_get_r2 : List Cond := [Cond.instanceMethod yX6_isElement, Cond.selects RX6 yX6_isElement yX6_isElement, Cond.code yX6_isElement cX6_isElement 3 (some .boolean), Cond.methodLink RX6 29 yX6_low, Cond.instanceMethod yX6_low, Cond.selects RX6 yX6_low yX6_low, Cond.code yX6_low cX6_low 2 (some .int), Cond.methodLink RX6 95 yX6_told, Cond.instanceMethod yX6_told, Cond.selects RX6 yX6_told yX6_told, Cond.code yX6_told cX6_told 4 (some .long), Cond.constantLong RX6 87 (-1), Cond.methodLink RX6 70 yX6_isOfObjects, Cond.instanceMethod yX6_isOfObjects, Cond.selects RX6 yX6_isOfObjects yX6_isOfObjects, Cond.code yX6_isOfObjects cX6_isOfObjects 2 (some .boolean), Cond.methodLink RX6 84 yX6_object, Cond.instanceMethod yX6_object, Cond.selects RX6 yX6_object yX6_object, Cond.code yX6_object cX6_object 3 (some .int)]
def wsX6_get : List Cond := .code yX6_get cX6_get 4 (some .long) :: ((wsX6_get_r1 ++ wsX6_get_r2) ++ wsX60)
def wsX6_deep_r1 : List Cond := [Cond.fieldLink RX6 92 "SpanMoverModel" "why" "I", Cond.fieldLink RX6 8 "SpanMoverModel" "heap" "[J", Cond.methodLink RX6 50 yX6_in, Cond.instanceMethod yX6_in, Cond.selects RX6 yX6_in yX6_in, Cond.initialized RX6, Cond.code yX6_in cX6_in 2 (some .int), Cond.fieldLink RX6 14 "SpanMoverModel" "at" "[I", Cond.methodLink RX6 21 yX6_isPlace, Cond.static yX6_isPlace, Cond.code yX6_isPlace cX6_isPlace 1 (some .boolean), Cond.methodLink RX6 53 yX6_isThing, Cond.instanceMethod yX6_isThing, Cond.selects RX6 yX6_isThing yX6_isThing, Cond.code yX6_isThing cX6_isThing 2 (some .boolean), Cond.methodLink RX6 25 yX6_kind, Cond.instanceMethod yX6_kind, Cond.selects RX6 yX6_kind yX6_kind, Cond.code yX6_kind cX6_kind 2 (some .int), Cond.methodLink RX6 73 yX6_isElement, Cond.instanceMethod yX6_isElement, Cond.selects RX6 yX6_isElement yX6_isElement, Cond.code yX6_isElement cX6_isElement 3 (some .boolean), Cond.methodLink RX6 29 yX6_low]
def wsX6_deep_r2 : List Cond := [Cond.instanceMethod yX6_low, Cond.selects RX6 yX6_low yX6_low, Cond.code yX6_low cX6_low 2 (some .int), Cond.methodLink RX6 84 yX6_object, Cond.instanceMethod yX6_object, Cond.selects RX6 yX6_object yX6_object, Cond.code yX6_object cX6_object 3 (some .int)]
def wsX6_deep : List Cond := .code yX6_deep cX6_deep 6 (some .long) :: ((wsX6_deep_r1 ++ wsX6_deep_r2) ++ wsX60)
def wsX6_why : List Cond := .code yX6_why cX6_why 1 (some .int) :: ([.fieldLink RX6 92 "SpanMoverModel" "why" "I"] ++ wsX60)
def wsX6_lift_r1 : List Cond := [Cond.fieldLink RX6 14 "SpanMoverModel" "at" "[I", Cond.methodLink RX6 50 yX6_in, Cond.instanceMethod yX6_in, Cond.selects RX6 yX6_in yX6_in, Cond.initialized RX6, Cond.code yX6_in cX6_in 2 (some .int), Cond.methodLink RX6 21 yX6_isPlace, Cond.static yX6_isPlace, Cond.code yX6_isPlace cX6_isPlace 1 (some .boolean), Cond.methodLink RX6 53 yX6_isThing, Cond.instanceMethod yX6_isThing, Cond.selects RX6 yX6_isThing yX6_isThing, Cond.code yX6_isThing cX6_isThing 2 (some .boolean), Cond.methodLink RX6 25 yX6_kind, Cond.instanceMethod yX6_kind, Cond.selects RX6 yX6_kind yX6_kind, Cond.code yX6_kind cX6_kind 2 (some .int), Cond.fieldLink RX6 8 "SpanMoverModel" "heap" "[J", Cond.methodLink RX6 70 yX6_isOfObjects, Cond.instanceMethod yX6_isOfObjects, Cond.selects RX6 yX6_isOfObjects yX6_isOfObjects, Cond.code yX6_isOfObjects cX6_isOfObjects 2 (some .boolean), Cond.methodLink RX6 73 yX6_isElement, Cond.instanceMethod yX6_isElement]
def wsX6_lift_r2 : List Cond := [Cond.selects RX6 yX6_isElement yX6_isElement, Cond.code yX6_isElement cX6_isElement 3 (some .boolean), Cond.methodLink RX6 29 yX6_low, Cond.instanceMethod yX6_low, Cond.selects RX6 yX6_low yX6_low, Cond.code yX6_low cX6_low 2 (some .int), Cond.methodLink RX6 84 yX6_object, Cond.instanceMethod yX6_object, Cond.selects RX6 yX6_object yX6_object, Cond.code yX6_object cX6_object 3 (some .int), Cond.methodLink RX6 38 yX6_lowestEmpty, Cond.instanceMethod yX6_lowestEmpty, Cond.selects RX6 yX6_lowestEmpty yX6_lowestEmpty, Cond.code yX6_lowestEmpty cX6_lowestEmpty 2 (some .int)]
def wsX6_lift : List Cond := .code yX6_lift cX6_lift 6 (some .int) :: ((wsX6_lift_r1 ++ wsX6_lift_r2) ++ wsX60)
def wsX6_bars : List Cond := .code yX6_bars cX6_bars 7 (some .int) :: ([.methodLink RX6 53 yX6_isThing, .instanceMethod yX6_isThing, .selects RX6 yX6_isThing yX6_isThing, .initialized RX6, .code yX6_isThing cX6_isThing 2 (some .boolean), .methodLink RX6 25 yX6_kind, .instanceMethod yX6_kind, .selects RX6 yX6_kind yX6_kind, .code yX6_kind cX6_kind 2 (some .int), .fieldLink RX6 8 "SpanMoverModel" "heap" "[J", .methodLink RX6 70 yX6_isOfObjects, .instanceMethod yX6_isOfObjects, .selects RX6 yX6_isOfObjects yX6_isOfObjects, .code yX6_isOfObjects cX6_isOfObjects 2 (some .boolean), .methodLink RX6 29 yX6_low, .instanceMethod yX6_low, .selects RX6 yX6_low yX6_low, .code yX6_low cX6_low 2 (some .int)] ++ wsX60)
def wsX6_move_r1 : List Cond := [Cond.fieldLink RX6 99 "SpanMoverModel" "moved" "I", Cond.fieldLink RX6 106 "SpanMoverModel" "ended" "I", Cond.fieldLink RX6 8 "SpanMoverModel" "heap" "[J", Cond.fieldLink RX6 109 "SpanMoverModel" "done" "I", Cond.fieldLink RX6 112 "SpanMoverModel" "refused" "I", Cond.methodLink RX6 50 yX6_in, Cond.instanceMethod yX6_in, Cond.selects RX6 yX6_in yX6_in, Cond.initialized RX6, Cond.code yX6_in cX6_in 2 (some .int), Cond.fieldLink RX6 14 "SpanMoverModel" "at" "[I", Cond.methodLink RX6 21 yX6_isPlace, Cond.static yX6_isPlace, Cond.code yX6_isPlace cX6_isPlace 1 (some .boolean), Cond.methodLink RX6 102 yX6_bars, Cond.instanceMethod yX6_bars, Cond.selects RX6 yX6_bars yX6_bars, Cond.code yX6_bars cX6_bars 7 (some .int), Cond.methodLink RX6 53 yX6_isThing, Cond.instanceMethod yX6_isThing, Cond.selects RX6 yX6_isThing yX6_isThing, Cond.code yX6_isThing cX6_isThing 2 (some .boolean), Cond.methodLink RX6 25 yX6_kind, Cond.instanceMethod yX6_kind]
def wsX6_move_r2 : List Cond := [Cond.selects RX6 yX6_kind yX6_kind, Cond.code yX6_kind cX6_kind 2 (some .int), Cond.methodLink RX6 70 yX6_isOfObjects, Cond.instanceMethod yX6_isOfObjects, Cond.selects RX6 yX6_isOfObjects yX6_isOfObjects, Cond.code yX6_isOfObjects cX6_isOfObjects 2 (some .boolean), Cond.methodLink RX6 29 yX6_low, Cond.instanceMethod yX6_low, Cond.selects RX6 yX6_low yX6_low, Cond.code yX6_low cX6_low 2 (some .int), Cond.methodLink RX6 84 yX6_object, Cond.instanceMethod yX6_object, Cond.selects RX6 yX6_object yX6_object, Cond.code yX6_object cX6_object 3 (some .int), Cond.methodLink RX6 81 yX6_fits, Cond.instanceMethod yX6_fits, Cond.selects RX6 yX6_fits yX6_fits, Cond.code yX6_fits cX6_fits 4 (some .boolean)]
def wsX6_move : List Cond := .code yX6_move cX6_move 12 (some .int) :: ((wsX6_move_r1 ++ wsX6_move_r2) ++ wsX60)
def wsX6_moved : List Cond := .code yX6_moved cX6_moved 1 (some .int) :: ([.fieldLink RX6 99 "SpanMoverModel" "moved" "I"] ++ wsX60)
def wsX6_plan : List Cond := .code yX6_plan cX6_plan 6 (some .int) :: ([.fieldLink RX6 115 "SpanMoverModel" "listed" "I", .fieldLink RX6 18 "SpanMoverModel" "list" "[I"] ++ wsX60)
def wsX6_run_r1 : List Cond := [Cond.fieldLink RX6 115 "SpanMoverModel" "listed" "I", Cond.fieldLink RX6 18 "SpanMoverModel" "list" "[I", Cond.methodLink RX6 118 yX6_move, Cond.instanceMethod yX6_move, Cond.selects RX6 yX6_move yX6_move, Cond.initialized RX6, Cond.code yX6_move cX6_move 12 (some .int), Cond.fieldLink RX6 99 "SpanMoverModel" "moved" "I", Cond.fieldLink RX6 106 "SpanMoverModel" "ended" "I", Cond.fieldLink RX6 8 "SpanMoverModel" "heap" "[J", Cond.fieldLink RX6 109 "SpanMoverModel" "done" "I", Cond.fieldLink RX6 112 "SpanMoverModel" "refused" "I", Cond.methodLink RX6 50 yX6_in, Cond.instanceMethod yX6_in, Cond.selects RX6 yX6_in yX6_in, Cond.code yX6_in cX6_in 2 (some .int), Cond.fieldLink RX6 14 "SpanMoverModel" "at" "[I", Cond.methodLink RX6 21 yX6_isPlace, Cond.static yX6_isPlace, Cond.code yX6_isPlace cX6_isPlace 1 (some .boolean), Cond.methodLink RX6 102 yX6_bars, Cond.instanceMethod yX6_bars, Cond.selects RX6 yX6_bars yX6_bars, Cond.code yX6_bars cX6_bars 7 (some .int)]
def wsX6_run_r2 : List Cond := [Cond.methodLink RX6 53 yX6_isThing, Cond.instanceMethod yX6_isThing, Cond.selects RX6 yX6_isThing yX6_isThing, Cond.code yX6_isThing cX6_isThing 2 (some .boolean), Cond.methodLink RX6 25 yX6_kind, Cond.instanceMethod yX6_kind, Cond.selects RX6 yX6_kind yX6_kind, Cond.code yX6_kind cX6_kind 2 (some .int), Cond.methodLink RX6 70 yX6_isOfObjects, Cond.instanceMethod yX6_isOfObjects, Cond.selects RX6 yX6_isOfObjects yX6_isOfObjects, Cond.code yX6_isOfObjects cX6_isOfObjects 2 (some .boolean), Cond.methodLink RX6 29 yX6_low, Cond.instanceMethod yX6_low, Cond.selects RX6 yX6_low yX6_low, Cond.code yX6_low cX6_low 2 (some .int), Cond.methodLink RX6 84 yX6_object, Cond.instanceMethod yX6_object, Cond.selects RX6 yX6_object yX6_object, Cond.code yX6_object cX6_object 3 (some .int), Cond.methodLink RX6 81 yX6_fits, Cond.instanceMethod yX6_fits, Cond.selects RX6 yX6_fits yX6_fits, Cond.code yX6_fits cX6_fits 4 (some .boolean)]
def wsX6_run : List Cond := .code yX6_run cX6_run 5 (some .int) :: ((wsX6_run_r1 ++ wsX6_run_r2) ++ wsX60)
def wsX6_ended : List Cond := .code yX6_ended cX6_ended 1 (some .int) :: ([.fieldLink RX6 106 "SpanMoverModel" "ended" "I"] ++ wsX60)
def wsX6_clear : List Cond := .code yX6_clear cX6_clear 2 (some .int) :: ([.fieldLink RX6 14 "SpanMoverModel" "at" "[I", .methodLink RX6 50 yX6_in, .instanceMethod yX6_in, .selects RX6 yX6_in yX6_in, .initialized RX6, .code yX6_in cX6_in 2 (some .int), .methodLink RX6 21 yX6_isPlace, .static yX6_isPlace, .code yX6_isPlace cX6_isPlace 1 (some .boolean)] ++ wsX60)
def wsX6_same : List Cond := .code yX6_same cX6_same 3 (some .int) :: ([.methodLink RX6 50 yX6_in, .instanceMethod yX6_in, .selects RX6 yX6_in yX6_in, .initialized RX6, .code yX6_in cX6_in 2 (some .int), .fieldLink RX6 14 "SpanMoverModel" "at" "[I", .methodLink RX6 21 yX6_isPlace, .static yX6_isPlace, .code yX6_isPlace cX6_isPlace 1 (some .boolean)] ++ wsX60)
def wsX6_summed : List Cond := .code yX6_summed cX6_summed 5 (some .long) :: ([.constantLong RX6 121 (31), .fieldLink RX6 8 "SpanMoverModel" "heap" "[J", .methodLink RX6 25 yX6_kind, .instanceMethod yX6_kind, .selects RX6 yX6_kind yX6_kind, .initialized RX6, .code yX6_kind cX6_kind 2 (some .int), .methodLink RX6 29 yX6_low, .instanceMethod yX6_low, .selects RX6 yX6_low yX6_low, .code yX6_low cX6_low 2 (some .int)] ++ wsX60)
def wsX6_share : List Cond := .code yX6_share cX6_share 2 (some .long) :: ([.fieldLink RX6 8 "SpanMoverModel" "heap" "[J", .methodLink RX6 25 yX6_kind, .instanceMethod yX6_kind, .selects RX6 yX6_kind yX6_kind, .initialized RX6, .code yX6_kind cX6_kind 2 (some .int), .methodLink RX6 123 yX6_summed, .instanceMethod yX6_summed, .selects RX6 yX6_summed yX6_summed, .code yX6_summed cX6_summed 5 (some .long), .constantLong RX6 121 (31), .methodLink RX6 29 yX6_low, .instanceMethod yX6_low, .selects RX6 yX6_low yX6_low, .code yX6_low cX6_low 2 (some .int)] ++ wsX60)
def wsX6_digest_r1 : List Cond := [Cond.constantLong RX6 121 (31), Cond.methodLink RX6 50 yX6_in, Cond.instanceMethod yX6_in, Cond.selects RX6 yX6_in yX6_in, Cond.initialized RX6, Cond.code yX6_in cX6_in 2 (some .int), Cond.fieldLink RX6 14 "SpanMoverModel" "at" "[I", Cond.methodLink RX6 21 yX6_isPlace, Cond.static yX6_isPlace, Cond.code yX6_isPlace cX6_isPlace 1 (some .boolean), Cond.methodLink RX6 53 yX6_isThing, Cond.instanceMethod yX6_isThing, Cond.selects RX6 yX6_isThing yX6_isThing, Cond.code yX6_isThing cX6_isThing 2 (some .boolean), Cond.methodLink RX6 25 yX6_kind, Cond.instanceMethod yX6_kind, Cond.selects RX6 yX6_kind yX6_kind, Cond.code yX6_kind cX6_kind 2 (some .int), Cond.fieldLink RX6 8 "SpanMoverModel" "heap" "[J", Cond.methodLink RX6 29 yX6_low, Cond.instanceMethod yX6_low, Cond.selects RX6 yX6_low yX6_low, Cond.code yX6_low cX6_low 2 (some .int), Cond.methodLink RX6 70 yX6_isOfObjects]
def wsX6_digest_r2 : List Cond := [Cond.instanceMethod yX6_isOfObjects, Cond.selects RX6 yX6_isOfObjects yX6_isOfObjects, Cond.code yX6_isOfObjects cX6_isOfObjects 2 (some .boolean), Cond.methodLink RX6 123 yX6_summed, Cond.instanceMethod yX6_summed, Cond.selects RX6 yX6_summed yX6_summed, Cond.code yX6_summed cX6_summed 5 (some .long), Cond.methodLink RX6 84 yX6_object, Cond.instanceMethod yX6_object, Cond.selects RX6 yX6_object yX6_object, Cond.code yX6_object cX6_object 3 (some .int), Cond.methodLink RX6 127 yX6_share, Cond.instanceMethod yX6_share, Cond.selects RX6 yX6_share yX6_share, Cond.code yX6_share cX6_share 2 (some .long)]
def wsX6_digest : List Cond := .code yX6_digest cX6_digest 7 (some .long) :: ((wsX6_digest_r1 ++ wsX6_digest_r2) ++ wsX60)
def wsX6_count : List Cond := .code yX6_count cX6_count 4 (some .int) :: ([.fieldLink RX6 14 "SpanMoverModel" "at" "[I", .constant RX6 7 (60000), .fieldLink RX6 32 "SpanMoverModel" "used" "I", .fieldLink RX6 115 "SpanMoverModel" "listed" "I", .fieldLink RX6 109 "SpanMoverModel" "done" "I", .fieldLink RX6 112 "SpanMoverModel" "refused" "I"] ++ wsX60)
def wsL_law_r1 : List Cond := [Cond.classLink RL 7 RX5, Cond.instantiable RX5 9, Cond.initialized RX5, Cond.classLink RL 10 RX6, Cond.instantiable RX6 10, Cond.initialized RX6, Cond.constantLong RL 35 (4294967295), Cond.methodLink RL 9 yX5_init, Cond.instanceMethod yX5_init, Cond.code yX5_init cX5_init 1 none, Cond.methodLink RX5 1 objectInit, Cond.instanceMethod objectInit, Cond.code objectInit ⟨#[0xb1]⟩ 1 none, Cond.classLink RX5 9 RX0, Cond.fieldLink RX5 11 "SpanMover" "shelf" "[LSpanMover$Item;", Cond.arrayClass .int, Cond.fieldLink RX5 15 "SpanMover" "list" "[I", Cond.fieldLink RX5 19 "SpanMover" "planned" "I", Cond.constant RX5 23 (60000), Cond.fieldLink RX5 24 "SpanMover" "stock" "I", Cond.fieldLink RX5 27 "SpanMover" "lastWhy" "I", Cond.fieldLink RX5 30 "SpanMover" "lastMoved" "I", Cond.fieldLink RX5 33 "SpanMover" "lastEnded" "I", Cond.fieldLink RX5 36 "SpanMover" "movesDone" "I"]
def wsL_law_r2 : List Cond := [Cond.fieldLink RX5 39 "SpanMover" "movesRefused" "I", Cond.methodLink RL 12 yX6_init, Cond.instanceMethod yX6_init, Cond.code yX6_init cX6_init 1 none, Cond.methodLink RX6 1 objectInit, Cond.constant RX6 7 (60000), Cond.arrayClass .long, Cond.fieldLink RX6 8 "SpanMoverModel" "heap" "[J", Cond.fieldLink RX6 14 "SpanMoverModel" "at" "[I", Cond.fieldLink RX6 18 "SpanMoverModel" "list" "[I", Cond.methodLink RL 13 yX5_row, Cond.instanceMethod yX5_row, Cond.selects RX5 yX5_row yX5_row, Cond.code yX5_row cX5_row 4 (some .int), Cond.classLink RX5 46 RX1, Cond.instantiable RX1 5, Cond.initialized RX1, Cond.classLink RX5 51 RX2, Cond.instantiable RX2 3, Cond.initialized RX2, Cond.methodLink RX5 42 yX5_lowestEmptyPlace, Cond.instanceMethod yX5_lowestEmptyPlace, Cond.selects RX5 yX5_lowestEmptyPlace yX5_lowestEmptyPlace, Cond.code yX5_lowestEmptyPlace cX5_lowestEmptyPlace 2 (some .int)]
def wsL_law_r3 : List Cond := [Cond.methodLink RX5 48 yX1_init, Cond.instanceMethod yX1_init, Cond.code yX1_init cX1_init 3 none, Cond.fieldLink RX1 9 "SpanMover$NumberRow" "numbers" "[J", Cond.methodLink RX1 3 yX3_init, Cond.instanceMethod yX3_init, Cond.initialized RX3, Cond.code yX3_init cX3_init 3 none, Cond.fieldLink RX3 7 "SpanMover$Row" "size" "I", Cond.methodLink RX3 1 yX0_init, Cond.instanceMethod yX0_init, Cond.initialized RX0, Cond.code yX0_init cX0_init 2 none, Cond.methodLink RX0 1 objectInit, Cond.fieldLink RX0 7 "SpanMover$Item" "kind" "I", Cond.methodLink RX5 53 yX2_init, Cond.instanceMethod yX2_init, Cond.code yX2_init cX2_init 3 none, Cond.classLink RX2 9 RX0, Cond.fieldLink RX2 11 "SpanMover$ObjectRow" "objects" "[LSpanMover$Item;", Cond.methodLink RX2 3 yX3_init, Cond.methodLink RL 17 yX6_row, Cond.instanceMethod yX6_row, Cond.selects RX6 yX6_row yX6_row]
def wsL_law_r4 : List Cond := [Cond.code yX6_row cX6_row 4 (some .int), Cond.fieldLink RX6 32 "SpanMoverModel" "used" "I", Cond.methodLink RX6 38 yX6_lowestEmpty, Cond.instanceMethod yX6_lowestEmpty, Cond.selects RX6 yX6_lowestEmpty yX6_lowestEmpty, Cond.code yX6_lowestEmpty cX6_lowestEmpty 2 (some .int), Cond.methodLink RX6 42 yX6_stand, Cond.instanceMethod yX6_stand, Cond.selects RX6 yX6_stand yX6_stand, Cond.code yX6_stand cX6_stand 4 (some .int), Cond.constantLong RX6 36 (4294967295), Cond.methodLink RL 18 yX5_mark, Cond.instanceMethod yX5_mark, Cond.selects RX5 yX5_mark yX5_mark, Cond.code yX5_mark cX5_mark 2 (some .int), Cond.methodLink RX5 54 yX5_newThing, Cond.instanceMethod yX5_newThing, Cond.selects RX5 yX5_newThing yX5_newThing, Cond.code yX5_newThing cX5_newThing 4 (some .int), Cond.classLink RX5 120 RX4, Cond.instantiable RX4 2, Cond.initialized RX4, Cond.methodLink RX5 131 yX4_init, Cond.instanceMethod yX4_init]
def wsL_law_r5 : List Cond := [Cond.code yX4_init cX4_init 3 none, Cond.fieldLink RX4 7 "SpanMover$Thing" "value" "I", Cond.methodLink RX4 1 yX0_init, Cond.methodLink RL 22 yX6_mark, Cond.instanceMethod yX6_mark, Cond.selects RX6 yX6_mark yX6_mark, Cond.code yX6_mark cX6_mark 2 (some .int), Cond.methodLink RX6 46 yX6_thing, Cond.instanceMethod yX6_thing, Cond.selects RX6 yX6_thing yX6_thing, Cond.code yX6_thing cX6_thing 4 (some .int), Cond.methodLink RL 23 yX5_seal, Cond.instanceMethod yX5_seal, Cond.selects RX5 yX5_seal yX5_seal, Cond.code yX5_seal cX5_seal 2 (some .int), Cond.methodLink RL 26 yX6_seal, Cond.instanceMethod yX6_seal, Cond.selects RX6 yX6_seal yX6_seal, Cond.code yX6_seal cX6_seal 2 (some .int), Cond.methodLink RL 27 yX5_kindOf, Cond.instanceMethod yX5_kindOf, Cond.selects RX5 yX5_kindOf yX5_kindOf, Cond.code yX5_kindOf cX5_kindOf 3 (some .int), Cond.fieldLink RX5 62 "SpanMover$Item" "kind" "I"]
def wsL_law_r6 : List Cond := [Cond.methodLink RX5 58 yX5_itemAt, Cond.instanceMethod yX5_itemAt, Cond.selects RX5 yX5_itemAt yX5_itemAt, Cond.code yX5_itemAt cX5_itemAt 2 (some (.object "SpanMover$Item")), Cond.methodLink RL 30 yX6_kindOf, Cond.instanceMethod yX6_kindOf, Cond.selects RX6 yX6_kindOf yX6_kindOf, Cond.code yX6_kindOf cX6_kindOf 2 (some .int), Cond.methodLink RX6 50 yX6_in, Cond.instanceMethod yX6_in, Cond.selects RX6 yX6_in yX6_in, Cond.code yX6_in cX6_in 2 (some .int), Cond.methodLink RX6 21 yX6_isPlace, Cond.static yX6_isPlace, Cond.code yX6_isPlace cX6_isPlace 1 (some .boolean), Cond.methodLink RX6 25 yX6_kind, Cond.instanceMethod yX6_kind, Cond.selects RX6 yX6_kind yX6_kind, Cond.code yX6_kind cX6_kind 2 (some .int), Cond.methodLink RL 31 yX5_length, Cond.instanceMethod yX5_length, Cond.selects RX5 yX5_length yX5_length, Cond.code yX5_length cX5_length 4 (some .int), Cond.classLink RX5 65 "SpanMover$Row"]
def wsL_law_r7 : List Cond := [Cond.fieldLink RX5 67 "SpanMover$Row" "size" "I", Cond.methodLink RL 34 yX6_length, Cond.instanceMethod yX6_length, Cond.selects RX6 yX6_length yX6_length, Cond.code yX6_length cX6_length 3 (some .int), Cond.methodLink RX6 53 yX6_isThing, Cond.instanceMethod yX6_isThing, Cond.selects RX6 yX6_isThing yX6_isThing, Cond.code yX6_isThing cX6_isThing 2 (some .boolean), Cond.methodLink RX6 29 yX6_low, Cond.instanceMethod yX6_low, Cond.selects RX6 yX6_low yX6_low, Cond.code yX6_low cX6_low 2 (some .int), Cond.methodLink RL 37 yX5_set, Cond.instanceMethod yX5_set, Cond.selects RX5 yX5_set yX5_set, Cond.code yX5_set cX5_set 8 (some .int), Cond.classLink RX5 46 "SpanMover$NumberRow", Cond.methodLink RX5 70 yX5_refusalAt, Cond.static yX5_refusalAt, Cond.code yX5_refusalAt cX5_refusalAt 5 (some .int), Cond.fieldLink RX5 132 "SpanMover$Row" "kind" "I", Cond.sameField "SpanMover$Row" "SpanMover$Item" "kind" "I", Cond.methodLink RX5 133 ⟨"SpanMover$Row", "hasElement", "(I)Z"⟩]
def wsL_law_r8 : List Cond := [Cond.sameMethod "SpanMover$Row" "SpanMover$Row" "hasElement" "(I)Z", Cond.selects RX1 ⟨"SpanMover$Row", "hasElement", "(I)Z"⟩ yX3_hasElement, Cond.instanceMethod yX3_hasElement, Cond.code yX3_hasElement cX3_hasElement 2 (some .boolean), Cond.selects RX2 ⟨"SpanMover$Row", "hasElement", "(I)Z"⟩ yX3_hasElement, Cond.methodLink RX5 74 yX1_put, Cond.instanceMethod yX1_put, Cond.selects RX1 yX1_put yX1_put, Cond.code yX1_put cX1_put 4 none, Cond.fieldLink RX1 19 "SpanMover$NumberRow" "digestKnown" "Z", Cond.methodLink RX1 15 yX1_narrowed, Cond.instanceMethod yX1_narrowed, Cond.selects RX1 yX1_narrowed yX1_narrowed, Cond.code yX1_narrowed cX1_narrowed 3 (some .long), Cond.fieldLink RX1 29 "SpanMover$NumberRow" "kind" "I", Cond.sameField "SpanMover$NumberRow" "SpanMover$Item" "kind" "I", Cond.methodLink RL 41 yX6_set, Cond.instanceMethod yX6_set, Cond.selects RX6 yX6_set yX6_set, Cond.code yX6_set cX6_set 6 (some .int), Cond.methodLink RX6 70 yX6_isOfObjects, Cond.instanceMethod yX6_isOfObjects, Cond.selects RX6 yX6_isOfObjects yX6_isOfObjects, Cond.code yX6_isOfObjects cX6_isOfObjects 2 (some .boolean)]
def wsL_law_r9 : List Cond := [Cond.methodLink RX6 73 yX6_isElement, Cond.instanceMethod yX6_isElement, Cond.selects RX6 yX6_isElement yX6_isElement, Cond.code yX6_isElement cX6_isElement 3 (some .boolean), Cond.methodLink RX6 77 yX6_fitted, Cond.static yX6_fitted, Cond.code yX6_fitted cX6_fitted 3 (some .long), Cond.methodLink RX6 66 yX6_rounded, Cond.static yX6_rounded, Cond.code yX6_rounded cX6_rounded 13 (some .long), Cond.constantLong RX6 56 (-9007199254740992), Cond.constantLong RX6 58 (9007199254740992), Cond.constantLong RX6 60 (-9223372036854775808), Cond.constantLong RX6 62 (9007199254740991), Cond.constantLong RX6 64 (9223372036854775807), Cond.methodLink RL 42 yX5_setThing, Cond.instanceMethod yX5_setThing, Cond.selects RX5 yX5_setThing yX5_setThing, Cond.code yX5_setThing cX5_setThing 8 (some .int), Cond.classLink RX5 51 "SpanMover$ObjectRow", Cond.methodLink RX5 78 yX2_isFitFor, Cond.instanceMethod yX2_isFitFor, Cond.selects RX2 yX2_isFitFor yX2_isFitFor, Cond.code yX2_isFitFor cX2_isFitFor 2 (some .boolean)]
def wsL_law_r10 : List Cond := [Cond.fieldLink RX2 17 "SpanMover$ObjectRow" "kind" "I", Cond.sameField "SpanMover$ObjectRow" "SpanMover$Item" "kind" "I", Cond.fieldLink RX2 21 "SpanMover$Item" "kind" "I", Cond.methodLink RX5 82 yX2_putObject, Cond.instanceMethod yX2_putObject, Cond.selects RX2 yX2_putObject yX2_putObject, Cond.code yX2_putObject cX2_putObject 3 none, Cond.methodLink RL 46 yX6_setThing, Cond.instanceMethod yX6_setThing, Cond.selects RX6 yX6_setThing yX6_setThing, Cond.code yX6_setThing cX6_setThing 6 (some .int), Cond.methodLink RX6 81 yX6_fits, Cond.instanceMethod yX6_fits, Cond.selects RX6 yX6_fits yX6_fits, Cond.code yX6_fits cX6_fits 4 (some .boolean), Cond.methodLink RL 47 yX5_get, Cond.instanceMethod yX5_get, Cond.selects RX5 yX5_get yX5_get, Cond.code yX5_get cX5_get 5 (some .long), Cond.methodLink RX5 86 yX1_numberAt, Cond.instanceMethod yX1_numberAt, Cond.selects RX1 yX1_numberAt yX1_numberAt, Cond.code yX1_numberAt cX1_numberAt 2 (some .long), Cond.methodLink RX5 90 yX2_objectAt]
def wsL_law_r11 : List Cond := [Cond.instanceMethod yX2_objectAt, Cond.selects RX2 yX2_objectAt yX2_objectAt, Cond.code yX2_objectAt cX2_objectAt 2 (some (.object "SpanMover$Item")), Cond.methodLink RX5 93 yX5_toldAs, Cond.static yX5_toldAs, Cond.code yX5_toldAs cX5_toldAs 2 (some .long), Cond.classLink RX5 120 "SpanMover$Thing", Cond.fieldLink RX5 124 "SpanMover$Thing" "kind" "I", Cond.sameField "SpanMover$Thing" "SpanMover$Item" "kind" "I", Cond.constantLong RX5 137 (4294967296), Cond.fieldLink RX5 125 "SpanMover$Thing" "value" "I", Cond.constantLong RX5 139 (4294967295), Cond.constantLong RX5 141 (-1), Cond.methodLink RL 51 yX6_get, Cond.instanceMethod yX6_get, Cond.selects RX6 yX6_get yX6_get, Cond.code yX6_get cX6_get 4 (some .long), Cond.fieldLink RX6 92 "SpanMoverModel" "why" "I", Cond.methodLink RX6 89 yX6_refusal, Cond.instanceMethod yX6_refusal, Cond.selects RX6 yX6_refusal yX6_refusal, Cond.code yX6_refusal cX6_refusal 3 (some .int), Cond.methodLink RX6 95 yX6_told, Cond.instanceMethod yX6_told]
def wsL_law_r12 : List Cond := [Cond.selects RX6 yX6_told yX6_told, Cond.code yX6_told cX6_told 4 (some .long), Cond.constantLong RX6 87 (-1), Cond.methodLink RX6 84 yX6_object, Cond.instanceMethod yX6_object, Cond.selects RX6 yX6_object yX6_object, Cond.code yX6_object cX6_object 3 (some .int), Cond.methodLink RL 52 yX5_deep, Cond.instanceMethod yX5_deep, Cond.selects RX5 yX5_deep yX5_deep, Cond.code yX5_deep cX5_deep 6 (some .long), Cond.methodLink RX5 97 yX5_innerNumber, Cond.instanceMethod yX5_innerNumber, Cond.selects RX5 yX5_innerNumber yX5_innerNumber, Cond.code yX5_innerNumber cX5_innerNumber 4 (some .long), Cond.methodLink RX5 143 ⟨"SpanMover$NumberRow", "hasElement", "(I)Z"⟩, Cond.sameMethod "SpanMover$NumberRow" "SpanMover$Row" "hasElement" "(I)Z", Cond.selects RX1 ⟨"SpanMover$NumberRow", "hasElement", "(I)Z"⟩ yX3_hasElement, Cond.methodLink RL 56 yX6_deep, Cond.instanceMethod yX6_deep, Cond.selects RX6 yX6_deep yX6_deep, Cond.code yX6_deep cX6_deep 6 (some .long), Cond.methodLink RL 57 yX5_why, Cond.instanceMethod yX5_why]
def wsL_law_r13 : List Cond := [Cond.selects RX5 yX5_why yX5_why, Cond.code yX5_why cX5_why 1 (some .int), Cond.methodLink RL 61 yX6_why, Cond.instanceMethod yX6_why, Cond.selects RX6 yX6_why yX6_why, Cond.code yX6_why cX6_why 1 (some .int), Cond.methodLink RL 62 yX5_lift, Cond.instanceMethod yX5_lift, Cond.selects RX5 yX5_lift yX5_lift, Cond.code yX5_lift cX5_lift 6 (some .int), Cond.methodLink RX5 101 yX5_standLifted, Cond.instanceMethod yX5_standLifted, Cond.selects RX5 yX5_standLifted yX5_standLifted, Cond.code yX5_standLifted cX5_standLifted 3 (some .int), Cond.methodLink RL 65 yX6_lift, Cond.instanceMethod yX6_lift, Cond.selects RX6 yX6_lift yX6_lift, Cond.code yX6_lift cX6_lift 6 (some .int), Cond.methodLink RL 66 yX5_move, Cond.instanceMethod yX5_move, Cond.selects RX5 yX5_move yX5_move, Cond.code yX5_move cX5_move 6 (some .int), Cond.methodLink RX5 105 yX5_doMove, Cond.instanceMethod yX5_doMove]
def wsL_law_r14 : List Cond := [Cond.selects RX5 yX5_doMove yX5_doMove, Cond.code yX5_doMove cX5_doMove 10 (some .int), Cond.methodLink RX5 144 yX5_refusalOfRows, Cond.static yX5_refusalOfRows, Cond.code yX5_refusalOfRows cX5_refusalOfRows 3 (some .int), Cond.methodLink RX5 148 yX5_moveSpan, Cond.instanceMethod yX5_moveSpan, Cond.selects RX5 yX5_moveSpan yX5_moveSpan, Cond.code yX5_moveSpan cX5_moveSpan 8 (some .int), Cond.methodLink RX5 152 ⟨"SpanMover$Row", "hasSpan", "(II)Z"⟩, Cond.sameMethod "SpanMover$Row" "SpanMover$Row" "hasSpan" "(II)Z", Cond.selects RX1 ⟨"SpanMover$Row", "hasSpan", "(II)Z"⟩ yX3_hasSpan, Cond.instanceMethod yX3_hasSpan, Cond.code yX3_hasSpan cX3_hasSpan 3 (some .boolean), Cond.selects RX2 ⟨"SpanMover$Row", "hasSpan", "(II)Z"⟩ yX3_hasSpan, Cond.methodLink RX5 156 yX1_takeSpan, Cond.instanceMethod yX1_takeSpan, Cond.selects RX1 yX1_takeSpan yX1_takeSpan, Cond.code yX1_takeSpan cX1_takeSpan 5 none, Cond.methodLink RX1 23 arraycopyName, Cond.native arraycopyName, Cond.static arraycopyName, Cond.initialized "java/lang/System", Cond.methodLink RX5 160 yX2_takeFittingSpan]
def wsL_law_r15 : List Cond := [Cond.instanceMethod yX2_takeFittingSpan, Cond.selects RX2 yX2_takeFittingSpan yX2_takeFittingSpan, Cond.code yX2_takeFittingSpan cX2_takeFittingSpan 6 (some .int), Cond.methodLink RX2 26 arraycopyName, Cond.methodLink RX2 22 yX2_isFitFor, Cond.methodLink RL 70 yX6_move, Cond.instanceMethod yX6_move, Cond.selects RX6 yX6_move yX6_move, Cond.code yX6_move cX6_move 12 (some .int), Cond.fieldLink RX6 99 "SpanMoverModel" "moved" "I", Cond.fieldLink RX6 106 "SpanMoverModel" "ended" "I", Cond.fieldLink RX6 109 "SpanMoverModel" "done" "I", Cond.fieldLink RX6 112 "SpanMoverModel" "refused" "I", Cond.methodLink RX6 102 yX6_bars, Cond.instanceMethod yX6_bars, Cond.selects RX6 yX6_bars yX6_bars, Cond.code yX6_bars cX6_bars 7 (some .int), Cond.methodLink RL 71 yX5_moved, Cond.instanceMethod yX5_moved, Cond.selects RX5 yX5_moved yX5_moved, Cond.code yX5_moved cX5_moved 1 (some .int), Cond.methodLink RL 74 yX6_moved, Cond.instanceMethod yX6_moved, Cond.selects RX6 yX6_moved yX6_moved]
def wsL_law_r16 : List Cond := [Cond.code yX6_moved cX6_moved 1 (some .int), Cond.methodLink RL 75 yX5_plan, Cond.instanceMethod yX5_plan, Cond.selects RX5 yX5_plan yX5_plan, Cond.code yX5_plan cX5_plan 7 (some .int), Cond.methodLink RL 78 yX6_plan, Cond.instanceMethod yX6_plan, Cond.selects RX6 yX6_plan yX6_plan, Cond.code yX6_plan cX6_plan 6 (some .int), Cond.fieldLink RX6 115 "SpanMoverModel" "listed" "I", Cond.methodLink RL 79 yX5_run, Cond.instanceMethod yX5_run, Cond.selects RX5 yX5_run yX5_run, Cond.code yX5_run cX5_run 2 (some .int), Cond.methodLink RX5 109 yX5_doPlanned, Cond.instanceMethod yX5_doPlanned, Cond.selects RX5 yX5_doPlanned yX5_doPlanned, Cond.code yX5_doPlanned cX5_doPlanned 3 (some .int), Cond.methodLink RL 82 yX6_run, Cond.instanceMethod yX6_run, Cond.selects RX6 yX6_run yX6_run, Cond.code yX6_run cX6_run 5 (some .int), Cond.methodLink RX6 118 yX6_move, Cond.methodLink RL 83 yX5_ended]
def wsL_law_r17 : List Cond := [Cond.instanceMethod yX5_ended, Cond.selects RX5 yX5_ended yX5_ended, Cond.code yX5_ended cX5_ended 1 (some .int), Cond.methodLink RL 86 yX6_ended, Cond.instanceMethod yX6_ended, Cond.selects RX6 yX6_ended yX6_ended, Cond.code yX6_ended cX6_ended 1 (some .int), Cond.methodLink RL 87 yX5_clear, Cond.instanceMethod yX5_clear, Cond.selects RX5 yX5_clear yX5_clear, Cond.code yX5_clear cX5_clear 2 (some .int), Cond.methodLink RL 90 yX6_clear, Cond.instanceMethod yX6_clear, Cond.selects RX6 yX6_clear yX6_clear, Cond.code yX6_clear cX6_clear 2 (some .int), Cond.methodLink RL 91 yX5_same, Cond.instanceMethod yX5_same, Cond.selects RX5 yX5_same yX5_same, Cond.code yX5_same cX5_same 5 (some .int), Cond.methodLink RL 94 yX6_same, Cond.instanceMethod yX6_same, Cond.selects RX6 yX6_same yX6_same, Cond.code yX6_same cX6_same 3 (some .int), Cond.methodLink RL 95 yX5_digest]
def wsL_law_r18 : List Cond := [Cond.instanceMethod yX5_digest, Cond.selects RX5 yX5_digest yX5_digest, Cond.code yX5_digest cX5_digest 4 (some .long), Cond.constantLong RX5 122 (31), Cond.methodLink RX5 113 yX1_digestOfNumbers, Cond.instanceMethod yX1_digestOfNumbers, Cond.selects RX1 yX1_digestOfNumbers yX1_digestOfNumbers, Cond.code yX1_digestOfNumbers cX1_digestOfNumbers 8 (some .long), Cond.constantLong RX1 33 (31), Cond.fieldLink RX1 35 "SpanMover$NumberRow" "knownDigest" "J", Cond.methodLink RX5 117 yX2_digestOfObjects, Cond.instanceMethod yX2_digestOfObjects, Cond.selects RX2 yX2_digestOfObjects yX2_digestOfObjects, Cond.code yX2_digestOfObjects cX2_digestOfObjects 7 (some .long), Cond.constantLong RX2 32 (31), Cond.methodLink RX2 34 yX2_digestedAs, Cond.static yX2_digestedAs, Cond.code yX2_digestedAs cX2_digestedAs 2 (some .long), Cond.classLink RX2 38 "SpanMover$NumberRow", Cond.methodLink RX2 40 yX1_digestOfNumbers, Cond.methodLink RL 99 yX6_digest, Cond.instanceMethod yX6_digest, Cond.selects RX6 yX6_digest yX6_digest, Cond.code yX6_digest cX6_digest 7 (some .long)]
def wsL_law_r19 : List Cond := [Cond.constantLong RX6 121 (31), Cond.methodLink RX6 123 yX6_summed, Cond.instanceMethod yX6_summed, Cond.selects RX6 yX6_summed yX6_summed, Cond.code yX6_summed cX6_summed 5 (some .long), Cond.methodLink RX6 127 yX6_share, Cond.instanceMethod yX6_share, Cond.selects RX6 yX6_share yX6_share, Cond.code yX6_share cX6_share 2 (some .long), Cond.methodLink RL 100 yX5_count, Cond.instanceMethod yX5_count, Cond.selects RX5 yX5_count yX5_count, Cond.code yX5_count cX5_count 2 (some .int), Cond.methodLink RX5 128 yX5_takenPlaces, Cond.instanceMethod yX5_takenPlaces, Cond.selects RX5 yX5_takenPlaces yX5_takenPlaces, Cond.code yX5_takenPlaces cX5_takenPlaces 6 (some .int), Cond.methodLink RL 103 yX6_count, Cond.instanceMethod yX6_count, Cond.selects RX6 yX6_count yX6_count, Cond.code yX6_count cX6_count 4 (some .int)]
def wsL_law : List Cond := (wsL_law_r1 ++ (wsL_law_r2 ++ (wsL_law_r3 ++ (wsL_law_r4 ++ (wsL_law_r5 ++ (wsL_law_r6 ++ (wsL_law_r7 ++ (wsL_law_r8 ++ (wsL_law_r9 ++ (wsL_law_r10 ++ (wsL_law_r11 ++ (wsL_law_r12 ++ (wsL_law_r13 ++ (wsL_law_r14 ++ (wsL_law_r15 ++ (wsL_law_r16 ++ (wsL_law_r17 ++ (wsL_law_r18 ++ wsL_law_r19)))))))))))))))))) ++ wsX50 ++ wsX60 ++ wsX10 ++ wsX20 ++ wsX40 ++ ([] : List Cond)
set_option maxRecDepth 20000 in
theorem wsL_law_in : ∀ w ∈ wsL_law, w ∈ lw_tbl := fun w h => (goodIn_p wsL_law [39, 42, 343, 78, 82, 87, 90, 93, 127, 380, 384, 388, 139, 143, 148, 393, 397, 159, 401, 163, 167, 405, 409, 412, 416, 171, 420, 424, 428, 176, 179, 185, 189, 193, 432, 436, 440, 443, 446, 197, 201, 205, 455, 459, 209, 213, 217, 220, 463, 467, 471, 475, 227, 231, 480, 239, 484, 243, 247, 488, 251, 255, 258, 262, 268, 272, 279, 492, 496, 285, 500, 289, 504, 293, 297, 508, 301, 513, 305, 517, 309, 521, 313, 317, 322, 326, 525, 530, 534, 334, 338, 538] (by decide +kernel) (by decide +kernel) w h).1
theorem inX0 : ∀ w ∈ wsX00, w ∈ lw_tbl := by decide +kernel
theorem inlX1 : ∀ w ∈ wsX10, w ∈ wsL_law := fun _ h => List.mem_append_left _ (List.mem_append_left _ (List.mem_append_left _ (List.mem_append_right _ h)))
theorem inX1 : ∀ w ∈ wsX10, w ∈ lw_tbl := fun w h => wsL_law_in w (inlX1 w h)
theorem inlX2 : ∀ w ∈ wsX20, w ∈ wsL_law := fun _ h => List.mem_append_left _ (List.mem_append_left _ (List.mem_append_right _ h))
theorem inX2 : ∀ w ∈ wsX20, w ∈ lw_tbl := fun w h => wsL_law_in w (inlX2 w h)
theorem inX3 : ∀ w ∈ wsX30, w ∈ lw_tbl := by decide +kernel
theorem inlX4 : ∀ w ∈ wsX40, w ∈ wsL_law := fun _ h => List.mem_append_left _ (List.mem_append_right _ h)
theorem inX4 : ∀ w ∈ wsX40, w ∈ lw_tbl := fun w h => wsL_law_in w (inlX4 w h)
theorem inlX5 : ∀ w ∈ wsX50, w ∈ wsL_law := fun _ h => List.mem_append_left _ (List.mem_append_left _ (List.mem_append_left _ (List.mem_append_left _ (List.mem_append_left _ (List.mem_append_right _ h)))))
theorem inX5 : ∀ w ∈ wsX50, w ∈ lw_tbl := fun w h => wsL_law_in w (inlX5 w h)
theorem inlX6 : ∀ w ∈ wsX60, w ∈ wsL_law := fun _ h => List.mem_append_left _ (List.mem_append_left _ (List.mem_append_left _ (List.mem_append_left _ (List.mem_append_right _ h))))
theorem inX6 : ∀ w ∈ wsX60, w ∈ lw_tbl := fun w h => wsL_law_in w (inlX6 w h)
theorem inJ10 : ∀ w ∈ wsJ100, w ∈ lw_tbl := by decide +kernel
end
section
abbrev vwCl : List vw_C := [(RX1, TX1, 5), (RX2, TX2, 3), (RX4, TX4, 2), (RX5, TX5, 9), (RX6, TX6, 10)]
theorem dX0_init_0 : decode cX0_init 0 = .ok (.aload_n 0, 1) := by decide +kernel
theorem dX0_init_1 : decode cX0_init 1 = .ok (.invokespecial 1, 3) := by decide +kernel
theorem dX0_init_4 : decode cX0_init 4 = .ok (.aload_n 0, 1) := by decide +kernel
theorem dX0_init_5 : decode cX0_init 5 = .ok (.iload_n 1, 1) := by decide +kernel
theorem dX0_init_6 : decode cX0_init 6 = .ok (.putfield 7, 3) := by decide +kernel
theorem dX0_init_9 : decode cX0_init 9 = .ok (.return_, 1) := by decide +kernel
set_option maxRecDepth 20000 in
theorem ggX1_init_X3_init : GoodIn wsX1_init wsX3_init := goodIn_r _ [6, 7, 8, 9, 10, 11, 12, 13, 14, 15, 16, 17, 18, 19, 20, 21, 22, 23, 24, 25] (by decide +kernel) (by decide +kernel)
set_option maxRecDepth 20000 in
theorem gX1_init_X3_init : GoodIn wsX1_init (wsX3_init) := ggX1_init_X3_init
theorem dX1_init_0 : decode cX1_init 0 = .ok (.aload_n 0, 1) := by decide +kernel
theorem dX1_init_1 : decode cX1_init 1 = .ok (.iload_n 1, 1) := by decide +kernel
theorem dX1_init_2 : decode cX1_init 2 = .ok (.iload_n 2, 1) := by decide +kernel
theorem dX1_init_3 : decode cX1_init 3 = .ok (.invokespecial 3, 3) := by decide +kernel
theorem dX1_init_6 : decode cX1_init 6 = .ok (.aload_n 0, 1) := by decide +kernel
theorem dX1_init_7 : decode cX1_init 7 = .ok (.iload_n 2, 1) := by decide +kernel
theorem dX1_init_8 : decode cX1_init 8 = .ok (.newarray .long, 2) := by decide +kernel
theorem dX1_init_10 : decode cX1_init 10 = .ok (.putfield 9, 3) := by decide +kernel
theorem dX1_init_13 : decode cX1_init 13 = .ok (.return_, 1) := by decide +kernel
theorem dX1_numberAt_0 : decode cX1_numberAt 0 = .ok (.aload_n 0, 1) := by decide +kernel
theorem dX1_numberAt_1 : decode cX1_numberAt 1 = .ok (.getfield 9, 3) := by decide +kernel
theorem dX1_numberAt_4 : decode cX1_numberAt 4 = .ok (.iload_n 1, 1) := by decide +kernel
theorem dX1_numberAt_5 : decode cX1_numberAt 5 = .ok (.laload, 1) := by decide +kernel
theorem dX1_numberAt_6 : decode cX1_numberAt 6 = .ok (.lreturn, 1) := by decide +kernel
set_option maxRecDepth 20000 in
theorem ggX1_put_X1_narrowed : GoodIn wsX1_put wsX1_narrowed := goodIn_r _ [7, 8, 9, 10, 11, 12, 13, 14, 15, 16, 17, 18, 19] (by decide +kernel) (by decide +kernel)
set_option maxRecDepth 20000 in
theorem gX1_put_X1_narrowed : GoodIn wsX1_put (wsV RX1 15 RX1 yX1_narrowed wsX1_narrowed) := goodIn_app (goodIn_of _ (by decide +kernel)) ggX1_put_X1_narrowed
theorem dX1_put_0 : decode cX1_put 0 = .ok (.aload_n 0, 1) := by decide +kernel
theorem dX1_put_1 : decode cX1_put 1 = .ok (.getfield 9, 3) := by decide +kernel
theorem dX1_put_4 : decode cX1_put 4 = .ok (.iload_n 1, 1) := by decide +kernel
theorem dX1_put_5 : decode cX1_put 5 = .ok (.aload_n 0, 1) := by decide +kernel
theorem dX1_put_6 : decode cX1_put 6 = .ok (.lload_n 2, 1) := by decide +kernel
theorem dX1_put_7 : decode cX1_put 7 = .ok (.invokevirtual 15, 3) := by decide +kernel
theorem dX1_put_10 : decode cX1_put 10 = .ok (.lastore, 1) := by decide +kernel
theorem dX1_put_11 : decode cX1_put 11 = .ok (.aload_n 0, 1) := by decide +kernel
theorem dX1_put_12 : decode cX1_put 12 = .ok (.iconst 0, 1) := by decide +kernel
theorem dX1_put_13 : decode cX1_put 13 = .ok (.putfield 19, 3) := by decide +kernel
theorem dX1_put_16 : decode cX1_put 16 = .ok (.return_, 1) := by decide +kernel
theorem dX1_takeSpan_0 : decode cX1_takeSpan 0 = .ok (.aload_n 2, 1) := by decide +kernel
theorem dX1_takeSpan_1 : decode cX1_takeSpan 1 = .ok (.getfield 9, 3) := by decide +kernel
theorem dX1_takeSpan_4 : decode cX1_takeSpan 4 = .ok (.iload_n 3, 1) := by decide +kernel
theorem dX1_takeSpan_5 : decode cX1_takeSpan 5 = .ok (.aload_n 0, 1) := by decide +kernel
theorem dX1_takeSpan_6 : decode cX1_takeSpan 6 = .ok (.getfield 9, 3) := by decide +kernel
theorem dX1_takeSpan_9 : decode cX1_takeSpan 9 = .ok (.iload_n 1, 1) := by decide +kernel
theorem dX1_takeSpan_10 : decode cX1_takeSpan 10 = .ok (.iload 4, 2) := by decide +kernel
theorem dX1_takeSpan_12 : decode cX1_takeSpan 12 = .ok (.invokestatic 23, 3) := by decide +kernel
theorem dX1_takeSpan_15 : decode cX1_takeSpan 15 = .ok (.aload_n 0, 1) := by decide +kernel
theorem dX1_takeSpan_16 : decode cX1_takeSpan 16 = .ok (.iconst 0, 1) := by decide +kernel
theorem dX1_takeSpan_17 : decode cX1_takeSpan 17 = .ok (.putfield 19, 3) := by decide +kernel
theorem dX1_takeSpan_20 : decode cX1_takeSpan 20 = .ok (.return_, 1) := by decide +kernel
theorem dX1_digestOfNumbers_0 : decode cX1_digestOfNumbers 0 = .ok (.aload_n 0, 1) := by decide +kernel
theorem dX1_digestOfNumbers_1 : decode cX1_digestOfNumbers 1 = .ok (.getfield 19, 3) := by decide +kernel
theorem dX1_digestOfNumbers_4 : decode cX1_digestOfNumbers 4 = .ok (.ifCond .ne 61, 3) := by decide +kernel
theorem dX1_digestOfNumbers_7 : decode cX1_digestOfNumbers 7 = .ok (.aload_n 0, 1) := by decide +kernel
theorem dX1_digestOfNumbers_8 : decode cX1_digestOfNumbers 8 = .ok (.getfield 29, 3) := by decide +kernel
theorem dX1_digestOfNumbers_11 : decode cX1_digestOfNumbers 11 = .ok (.iconst 1, 1) := by decide +kernel
theorem dX1_digestOfNumbers_12 : decode cX1_digestOfNumbers 12 = .ok (.iadd, 1) := by decide +kernel
theorem dX1_digestOfNumbers_13 : decode cX1_digestOfNumbers 13 = .ok (.i2l, 1) := by decide +kernel
theorem dX1_digestOfNumbers_14 : decode cX1_digestOfNumbers 14 = .ok (.lstore_n 1, 1) := by decide +kernel
theorem dX1_digestOfNumbers_15 : decode cX1_digestOfNumbers 15 = .ok (.aload_n 0, 1) := by decide +kernel
theorem dX1_digestOfNumbers_16 : decode cX1_digestOfNumbers 16 = .ok (.getfield 9, 3) := by decide +kernel
theorem dX1_digestOfNumbers_19 : decode cX1_digestOfNumbers 19 = .ok (.astore_n 3, 1) := by decide +kernel
theorem dX1_digestOfNumbers_20 : decode cX1_digestOfNumbers 20 = .ok (.aload_n 3, 1) := by decide +kernel
theorem dX1_digestOfNumbers_21 : decode cX1_digestOfNumbers 21 = .ok (.arraylength, 1) := by decide +kernel
theorem dX1_digestOfNumbers_22 : decode cX1_digestOfNumbers 22 = .ok (.istore 4, 2) := by decide +kernel
theorem dX1_digestOfNumbers_24 : decode cX1_digestOfNumbers 24 = .ok (.iconst 0, 1) := by decide +kernel
theorem dX1_digestOfNumbers_25 : decode cX1_digestOfNumbers 25 = .ok (.istore 5, 2) := by decide +kernel
theorem dX1_digestOfNumbers_27 : decode cX1_digestOfNumbers 27 = .ok (.iload 5, 2) := by decide +kernel
theorem dX1_digestOfNumbers_29 : decode cX1_digestOfNumbers 29 = .ok (.iload 4, 2) := by decide +kernel
theorem dX1_digestOfNumbers_31 : decode cX1_digestOfNumbers 31 = .ok (.if_icmp .ge 24, 3) := by decide +kernel
theorem dX1_digestOfNumbers_34 : decode cX1_digestOfNumbers 34 = .ok (.aload_n 3, 1) := by decide +kernel
theorem dX1_digestOfNumbers_35 : decode cX1_digestOfNumbers 35 = .ok (.iload 5, 2) := by decide +kernel
theorem dX1_digestOfNumbers_37 : decode cX1_digestOfNumbers 37 = .ok (.laload, 1) := by decide +kernel
theorem dX1_digestOfNumbers_38 : decode cX1_digestOfNumbers 38 = .ok (.lstore 6, 2) := by decide +kernel
theorem dX1_digestOfNumbers_40 : decode cX1_digestOfNumbers 40 = .ok (.ldc2_w 33, 3) := by decide +kernel
theorem dX1_digestOfNumbers_43 : decode cX1_digestOfNumbers 43 = .ok (.lload_n 1, 1) := by decide +kernel
theorem dX1_digestOfNumbers_44 : decode cX1_digestOfNumbers 44 = .ok (.lmul, 1) := by decide +kernel
theorem dX1_digestOfNumbers_45 : decode cX1_digestOfNumbers 45 = .ok (.lload 6, 2) := by decide +kernel
theorem dX1_digestOfNumbers_47 : decode cX1_digestOfNumbers 47 = .ok (.ladd, 1) := by decide +kernel
theorem dX1_digestOfNumbers_48 : decode cX1_digestOfNumbers 48 = .ok (.lstore_n 1, 1) := by decide +kernel
theorem dX1_digestOfNumbers_49 : decode cX1_digestOfNumbers 49 = .ok (.iinc 5 1, 3) := by decide +kernel
theorem dX1_digestOfNumbers_52 : decode cX1_digestOfNumbers 52 = .ok (.goto (-25), 3) := by decide +kernel
theorem dX1_digestOfNumbers_55 : decode cX1_digestOfNumbers 55 = .ok (.aload_n 0, 1) := by decide +kernel
theorem dX1_digestOfNumbers_56 : decode cX1_digestOfNumbers 56 = .ok (.lload_n 1, 1) := by decide +kernel
theorem dX1_digestOfNumbers_57 : decode cX1_digestOfNumbers 57 = .ok (.putfield 35, 3) := by decide +kernel
theorem dX1_digestOfNumbers_60 : decode cX1_digestOfNumbers 60 = .ok (.aload_n 0, 1) := by decide +kernel
theorem dX1_digestOfNumbers_61 : decode cX1_digestOfNumbers 61 = .ok (.iconst 1, 1) := by decide +kernel
theorem dX1_digestOfNumbers_62 : decode cX1_digestOfNumbers 62 = .ok (.putfield 19, 3) := by decide +kernel
theorem dX1_digestOfNumbers_65 : decode cX1_digestOfNumbers 65 = .ok (.aload_n 0, 1) := by decide +kernel
theorem dX1_digestOfNumbers_66 : decode cX1_digestOfNumbers 66 = .ok (.getfield 35, 3) := by decide +kernel
theorem dX1_digestOfNumbers_69 : decode cX1_digestOfNumbers 69 = .ok (.lreturn, 1) := by decide +kernel
theorem dX1_narrowed_0 : decode cX1_narrowed 0 = .ok (.aload_n 0, 1) := by decide +kernel
theorem dX1_narrowed_1 : decode cX1_narrowed 1 = .ok (.getfield 29, 3) := by decide +kernel
theorem dX1_narrowed_4 : decode cX1_narrowed 4 = .ok (.tableswitch 45 0 3 #[32, 45, 36, 41], 32) := by decide +kernel
theorem dX1_narrowed_36 : decode cX1_narrowed 36 = .ok (.lload_n 1, 1) := by decide +kernel
theorem dX1_narrowed_37 : decode cX1_narrowed 37 = .ok (.l2i, 1) := by decide +kernel
theorem dX1_narrowed_38 : decode cX1_narrowed 38 = .ok (.i2l, 1) := by decide +kernel
theorem dX1_narrowed_39 : decode cX1_narrowed 39 = .ok (.lreturn, 1) := by decide +kernel
theorem dX1_narrowed_40 : decode cX1_narrowed 40 = .ok (.lload_n 1, 1) := by decide +kernel
theorem dX1_narrowed_41 : decode cX1_narrowed 41 = .ok (.l2i, 1) := by decide +kernel
theorem dX1_narrowed_42 : decode cX1_narrowed 42 = .ok (.i2b, 1) := by decide +kernel
theorem dX1_narrowed_43 : decode cX1_narrowed 43 = .ok (.i2l, 1) := by decide +kernel
theorem dX1_narrowed_44 : decode cX1_narrowed 44 = .ok (.lreturn, 1) := by decide +kernel
theorem dX1_narrowed_45 : decode cX1_narrowed 45 = .ok (.lload_n 1, 1) := by decide +kernel
theorem dX1_narrowed_46 : decode cX1_narrowed 46 = .ok (.l2d, 1) := by decide +kernel
theorem dX1_narrowed_47 : decode cX1_narrowed 47 = .ok (.d2l, 1) := by decide +kernel
theorem dX1_narrowed_48 : decode cX1_narrowed 48 = .ok (.lreturn, 1) := by decide +kernel
theorem dX1_narrowed_49 : decode cX1_narrowed 49 = .ok (.lload_n 1, 1) := by decide +kernel
theorem dX1_narrowed_50 : decode cX1_narrowed 50 = .ok (.lreturn, 1) := by decide +kernel
set_option maxRecDepth 20000 in
theorem ggX2_init_X3_init : GoodIn wsX2_init wsX3_init := goodIn_r _ [6, 7, 8, 9, 10, 11, 12, 13, 14, 15, 19, 20, 21, 22, 23, 16, 17, 18, 24, 25] (by decide +kernel) (by decide +kernel)
set_option maxRecDepth 20000 in
theorem gX2_init_X3_init : GoodIn wsX2_init (wsX3_init) := ggX2_init_X3_init
theorem dX2_init_0 : decode cX2_init 0 = .ok (.aload_n 0, 1) := by decide +kernel
theorem dX2_init_1 : decode cX2_init 1 = .ok (.iload_n 1, 1) := by decide +kernel
theorem dX2_init_2 : decode cX2_init 2 = .ok (.iload_n 2, 1) := by decide +kernel
theorem dX2_init_3 : decode cX2_init 3 = .ok (.invokespecial 3, 3) := by decide +kernel
theorem dX2_init_6 : decode cX2_init 6 = .ok (.aload_n 0, 1) := by decide +kernel
theorem dX2_init_7 : decode cX2_init 7 = .ok (.iload_n 2, 1) := by decide +kernel
theorem dX2_init_8 : decode cX2_init 8 = .ok (.anewarray 9, 3) := by decide +kernel
theorem dX2_init_11 : decode cX2_init 11 = .ok (.putfield 11, 3) := by decide +kernel
theorem dX2_init_14 : decode cX2_init 14 = .ok (.return_, 1) := by decide +kernel
theorem dX2_objectAt_0 : decode cX2_objectAt 0 = .ok (.aload_n 0, 1) := by decide +kernel
theorem dX2_objectAt_1 : decode cX2_objectAt 1 = .ok (.getfield 11, 3) := by decide +kernel
theorem dX2_objectAt_4 : decode cX2_objectAt 4 = .ok (.iload_n 1, 1) := by decide +kernel
theorem dX2_objectAt_5 : decode cX2_objectAt 5 = .ok (.aaload, 1) := by decide +kernel
theorem dX2_objectAt_6 : decode cX2_objectAt 6 = .ok (.areturn, 1) := by decide +kernel
theorem dX2_putObject_0 : decode cX2_putObject 0 = .ok (.aload_n 0, 1) := by decide +kernel
theorem dX2_putObject_1 : decode cX2_putObject 1 = .ok (.getfield 11, 3) := by decide +kernel
theorem dX2_putObject_4 : decode cX2_putObject 4 = .ok (.iload_n 1, 1) := by decide +kernel
theorem dX2_putObject_5 : decode cX2_putObject 5 = .ok (.aload_n 2, 1) := by decide +kernel
theorem dX2_putObject_6 : decode cX2_putObject 6 = .ok (.aastore, 1) := by decide +kernel
theorem dX2_putObject_7 : decode cX2_putObject 7 = .ok (.return_, 1) := by decide +kernel
theorem dX2_isFitFor_0 : decode cX2_isFitFor 0 = .ok (.aload_n 1, 1) := by decide +kernel
theorem dX2_isFitFor_1 : decode cX2_isFitFor 1 = .ok (.ifnonnull 5, 3) := by decide +kernel
theorem dX2_isFitFor_4 : decode cX2_isFitFor 4 = .ok (.iconst 1, 1) := by decide +kernel
theorem dX2_isFitFor_5 : decode cX2_isFitFor 5 = .ok (.ireturn, 1) := by decide +kernel
theorem dX2_isFitFor_6 : decode cX2_isFitFor 6 = .ok (.aload_n 0, 1) := by decide +kernel
theorem dX2_isFitFor_7 : decode cX2_isFitFor 7 = .ok (.getfield 17, 3) := by decide +kernel
theorem dX2_isFitFor_10 : decode cX2_isFitFor 10 = .ok (.lookupswitch 63 #[(4, 26), (5, 39)], 26) := by decide +kernel
theorem dX2_isFitFor_36 : decode cX2_isFitFor 36 = .ok (.aload_n 1, 1) := by decide +kernel
theorem dX2_isFitFor_37 : decode cX2_isFitFor 37 = .ok (.getfield 21, 3) := by decide +kernel
theorem dX2_isFitFor_40 : decode cX2_isFitFor 40 = .ok (.ifCond .ne 7, 3) := by decide +kernel
theorem dX2_isFitFor_43 : decode cX2_isFitFor 43 = .ok (.iconst 1, 1) := by decide +kernel
theorem dX2_isFitFor_44 : decode cX2_isFitFor 44 = .ok (.goto 4, 3) := by decide +kernel
theorem dX2_isFitFor_47 : decode cX2_isFitFor 47 = .ok (.iconst 0, 1) := by decide +kernel
theorem dX2_isFitFor_48 : decode cX2_isFitFor 48 = .ok (.ireturn, 1) := by decide +kernel
theorem dX2_isFitFor_49 : decode cX2_isFitFor 49 = .ok (.aload_n 1, 1) := by decide +kernel
theorem dX2_isFitFor_50 : decode cX2_isFitFor 50 = .ok (.getfield 21, 3) := by decide +kernel
theorem dX2_isFitFor_53 : decode cX2_isFitFor 53 = .ok (.bipush 7, 2) := by decide +kernel
theorem dX2_isFitFor_55 : decode cX2_isFitFor 55 = .ok (.if_icmp .eq 12, 3) := by decide +kernel
theorem dX2_isFitFor_58 : decode cX2_isFitFor 58 = .ok (.aload_n 1, 1) := by decide +kernel
theorem dX2_isFitFor_59 : decode cX2_isFitFor 59 = .ok (.getfield 21, 3) := by decide +kernel
theorem dX2_isFitFor_62 : decode cX2_isFitFor 62 = .ok (.bipush 8, 2) := by decide +kernel
theorem dX2_isFitFor_64 : decode cX2_isFitFor 64 = .ok (.if_icmp .ne 7, 3) := by decide +kernel
theorem dX2_isFitFor_67 : decode cX2_isFitFor 67 = .ok (.iconst 1, 1) := by decide +kernel
theorem dX2_isFitFor_68 : decode cX2_isFitFor 68 = .ok (.goto 4, 3) := by decide +kernel
theorem dX2_isFitFor_71 : decode cX2_isFitFor 71 = .ok (.iconst 0, 1) := by decide +kernel
theorem dX2_isFitFor_72 : decode cX2_isFitFor 72 = .ok (.ireturn, 1) := by decide +kernel
theorem dX2_isFitFor_73 : decode cX2_isFitFor 73 = .ok (.aload_n 1, 1) := by decide +kernel
theorem dX2_isFitFor_74 : decode cX2_isFitFor 74 = .ok (.getfield 21, 3) := by decide +kernel
theorem dX2_isFitFor_77 : decode cX2_isFitFor 77 = .ok (.bipush 8, 2) := by decide +kernel
theorem dX2_isFitFor_79 : decode cX2_isFitFor 79 = .ok (.if_icmp .ne 7, 3) := by decide +kernel
theorem dX2_isFitFor_82 : decode cX2_isFitFor 82 = .ok (.iconst 1, 1) := by decide +kernel
theorem dX2_isFitFor_83 : decode cX2_isFitFor 83 = .ok (.goto 4, 3) := by decide +kernel
theorem dX2_isFitFor_86 : decode cX2_isFitFor 86 = .ok (.iconst 0, 1) := by decide +kernel
theorem dX2_isFitFor_87 : decode cX2_isFitFor 87 = .ok (.ireturn, 1) := by decide +kernel
set_option maxRecDepth 20000 in
theorem ggX2_takeFittingSpan_X2_isFitFor : GoodIn wsX2_takeFittingSpan wsX2_isFitFor := goodIn_r _ [10, 11, 12, 13, 17, 18, 19, 20, 21, 14, 15, 16, 22, 23] (by decide +kernel) (by decide +kernel)
set_option maxRecDepth 20000 in
theorem gX2_takeFittingSpan_X2_isFitFor : GoodIn wsX2_takeFittingSpan (wsV RX2 22 RX2 yX2_isFitFor wsX2_isFitFor) := goodIn_app (goodIn_of _ (by decide +kernel)) ggX2_takeFittingSpan_X2_isFitFor
theorem dX2_takeFittingSpan_0 : decode cX2_takeFittingSpan 0 = .ok (.iconst 0, 1) := by decide +kernel
theorem dX2_takeFittingSpan_1 : decode cX2_takeFittingSpan 1 = .ok (.istore 5, 2) := by decide +kernel
theorem dX2_takeFittingSpan_3 : decode cX2_takeFittingSpan 3 = .ok (.iload 5, 2) := by decide +kernel
theorem dX2_takeFittingSpan_5 : decode cX2_takeFittingSpan 5 = .ok (.iload 4, 2) := by decide +kernel
theorem dX2_takeFittingSpan_7 : decode cX2_takeFittingSpan 7 = .ok (.if_icmp .ge 25, 3) := by decide +kernel
theorem dX2_takeFittingSpan_10 : decode cX2_takeFittingSpan 10 = .ok (.aload_n 0, 1) := by decide +kernel
theorem dX2_takeFittingSpan_11 : decode cX2_takeFittingSpan 11 = .ok (.aload_n 2, 1) := by decide +kernel
theorem dX2_takeFittingSpan_12 : decode cX2_takeFittingSpan 12 = .ok (.getfield 11, 3) := by decide +kernel
theorem dX2_takeFittingSpan_15 : decode cX2_takeFittingSpan 15 = .ok (.iload_n 3, 1) := by decide +kernel
theorem dX2_takeFittingSpan_16 : decode cX2_takeFittingSpan 16 = .ok (.iload 5, 2) := by decide +kernel
theorem dX2_takeFittingSpan_18 : decode cX2_takeFittingSpan 18 = .ok (.iadd, 1) := by decide +kernel
theorem dX2_takeFittingSpan_19 : decode cX2_takeFittingSpan 19 = .ok (.aaload, 1) := by decide +kernel
theorem dX2_takeFittingSpan_20 : decode cX2_takeFittingSpan 20 = .ok (.invokevirtual 22, 3) := by decide +kernel
theorem dX2_takeFittingSpan_23 : decode cX2_takeFittingSpan 23 = .ok (.ifCond .eq 9, 3) := by decide +kernel
theorem dX2_takeFittingSpan_26 : decode cX2_takeFittingSpan 26 = .ok (.iinc 5 1, 3) := by decide +kernel
theorem dX2_takeFittingSpan_29 : decode cX2_takeFittingSpan 29 = .ok (.goto (-26), 3) := by decide +kernel
theorem dX2_takeFittingSpan_32 : decode cX2_takeFittingSpan 32 = .ok (.aload_n 2, 1) := by decide +kernel
theorem dX2_takeFittingSpan_33 : decode cX2_takeFittingSpan 33 = .ok (.getfield 11, 3) := by decide +kernel
theorem dX2_takeFittingSpan_36 : decode cX2_takeFittingSpan 36 = .ok (.iload_n 3, 1) := by decide +kernel
theorem dX2_takeFittingSpan_37 : decode cX2_takeFittingSpan 37 = .ok (.aload_n 0, 1) := by decide +kernel
theorem dX2_takeFittingSpan_38 : decode cX2_takeFittingSpan 38 = .ok (.getfield 11, 3) := by decide +kernel
theorem dX2_takeFittingSpan_41 : decode cX2_takeFittingSpan 41 = .ok (.iload_n 1, 1) := by decide +kernel
theorem dX2_takeFittingSpan_42 : decode cX2_takeFittingSpan 42 = .ok (.iload 5, 2) := by decide +kernel
theorem dX2_takeFittingSpan_44 : decode cX2_takeFittingSpan 44 = .ok (.invokestatic 26, 3) := by decide +kernel
theorem dX2_takeFittingSpan_47 : decode cX2_takeFittingSpan 47 = .ok (.iload 5, 2) := by decide +kernel
theorem dX2_takeFittingSpan_49 : decode cX2_takeFittingSpan 49 = .ok (.ireturn, 1) := by decide +kernel
set_option maxRecDepth 20000 in
theorem ggX2_digestOfObjects_X2_digestedAs : GoodIn wsX2_digestOfObjects wsX2_digestedAs := goodIn_r _ [8, 9, 10, 11, 12, 13, 14, 15, 16, 17, 18, 19, 20, 21, 22, 23, 24, 25, 26, 27, 28, 29, 30, 31, 32, 33, 34, 35, 36, 37, 38, 39, 40, 41, 42] (by decide +kernel) (by decide +kernel)
set_option maxRecDepth 20000 in
theorem gX2_digestOfObjects_X2_digestedAs : GoodIn wsX2_digestOfObjects (va_wsS RX2 34 yX2_digestedAs wsX2_digestedAs) := goodIn_app (goodIn_of _ (by decide +kernel)) ggX2_digestOfObjects_X2_digestedAs
theorem dX2_digestOfObjects_0 : decode cX2_digestOfObjects 0 = .ok (.aload_n 0, 1) := by decide +kernel
theorem dX2_digestOfObjects_1 : decode cX2_digestOfObjects 1 = .ok (.getfield 17, 3) := by decide +kernel
theorem dX2_digestOfObjects_4 : decode cX2_digestOfObjects 4 = .ok (.iconst 1, 1) := by decide +kernel
theorem dX2_digestOfObjects_5 : decode cX2_digestOfObjects 5 = .ok (.iadd, 1) := by decide +kernel
theorem dX2_digestOfObjects_6 : decode cX2_digestOfObjects 6 = .ok (.i2l, 1) := by decide +kernel
theorem dX2_digestOfObjects_7 : decode cX2_digestOfObjects 7 = .ok (.lstore_n 1, 1) := by decide +kernel
theorem dX2_digestOfObjects_8 : decode cX2_digestOfObjects 8 = .ok (.aload_n 0, 1) := by decide +kernel
theorem dX2_digestOfObjects_9 : decode cX2_digestOfObjects 9 = .ok (.getfield 11, 3) := by decide +kernel
theorem dX2_digestOfObjects_12 : decode cX2_digestOfObjects 12 = .ok (.astore_n 3, 1) := by decide +kernel
theorem dX2_digestOfObjects_13 : decode cX2_digestOfObjects 13 = .ok (.aload_n 3, 1) := by decide +kernel
theorem dX2_digestOfObjects_14 : decode cX2_digestOfObjects 14 = .ok (.arraylength, 1) := by decide +kernel
theorem dX2_digestOfObjects_15 : decode cX2_digestOfObjects 15 = .ok (.istore 4, 2) := by decide +kernel
theorem dX2_digestOfObjects_17 : decode cX2_digestOfObjects 17 = .ok (.iconst 0, 1) := by decide +kernel
theorem dX2_digestOfObjects_18 : decode cX2_digestOfObjects 18 = .ok (.istore 5, 2) := by decide +kernel
theorem dX2_digestOfObjects_20 : decode cX2_digestOfObjects 20 = .ok (.iload 5, 2) := by decide +kernel
theorem dX2_digestOfObjects_22 : decode cX2_digestOfObjects 22 = .ok (.iload 4, 2) := by decide +kernel
theorem dX2_digestOfObjects_24 : decode cX2_digestOfObjects 24 = .ok (.if_icmp .ge 27, 3) := by decide +kernel
theorem dX2_digestOfObjects_27 : decode cX2_digestOfObjects 27 = .ok (.aload_n 3, 1) := by decide +kernel
theorem dX2_digestOfObjects_28 : decode cX2_digestOfObjects 28 = .ok (.iload 5, 2) := by decide +kernel
theorem dX2_digestOfObjects_30 : decode cX2_digestOfObjects 30 = .ok (.aaload, 1) := by decide +kernel
theorem dX2_digestOfObjects_31 : decode cX2_digestOfObjects 31 = .ok (.astore 6, 2) := by decide +kernel
theorem dX2_digestOfObjects_33 : decode cX2_digestOfObjects 33 = .ok (.ldc2_w 32, 3) := by decide +kernel
theorem dX2_digestOfObjects_36 : decode cX2_digestOfObjects 36 = .ok (.lload_n 1, 1) := by decide +kernel
theorem dX2_digestOfObjects_37 : decode cX2_digestOfObjects 37 = .ok (.lmul, 1) := by decide +kernel
theorem dX2_digestOfObjects_38 : decode cX2_digestOfObjects 38 = .ok (.aload 6, 2) := by decide +kernel
theorem dX2_digestOfObjects_40 : decode cX2_digestOfObjects 40 = .ok (.invokestatic 34, 3) := by decide +kernel
theorem dX2_digestOfObjects_43 : decode cX2_digestOfObjects 43 = .ok (.ladd, 1) := by decide +kernel
theorem dX2_digestOfObjects_44 : decode cX2_digestOfObjects 44 = .ok (.lstore_n 1, 1) := by decide +kernel
theorem dX2_digestOfObjects_45 : decode cX2_digestOfObjects 45 = .ok (.iinc 5 1, 3) := by decide +kernel
theorem dX2_digestOfObjects_48 : decode cX2_digestOfObjects 48 = .ok (.goto (-28), 3) := by decide +kernel
theorem dX2_digestOfObjects_51 : decode cX2_digestOfObjects 51 = .ok (.lload_n 1, 1) := by decide +kernel
theorem dX2_digestOfObjects_52 : decode cX2_digestOfObjects 52 = .ok (.lreturn, 1) := by decide +kernel
set_option maxRecDepth 20000 in
theorem ggX2_digestedAs_X1_digestOfNumbers : GoodIn wsX2_digestedAs wsX1_digestOfNumbers := goodIn_r _ [6, 7, 8, 9, 10, 11, 12, 25, 26, 27, 28, 29, 30, 31, 32, 33, 34] (by decide +kernel) (by decide +kernel)
set_option maxRecDepth 20000 in
theorem gX2_digestedAs_X1_digestOfNumbers : GoodIn wsX2_digestedAs (wsV RX2 40 RX1 yX1_digestOfNumbers wsX1_digestOfNumbers) := goodIn_app (goodIn_of _ (by decide +kernel)) ggX2_digestedAs_X1_digestOfNumbers
set_option maxRecDepth 20000 in
theorem ggX2_digestedAs_X5_toldAs : GoodIn wsX2_digestedAs wsX5_toldAs := goodIn_r _ [15, 16, 17, 18, 19, 20, 21, 22, 23, 24, 25, 26, 27, 28, 29, 30, 31, 32, 33, 34] (by decide +kernel) (by decide +kernel)
set_option maxRecDepth 20000 in
theorem gX2_digestedAs_X5_toldAs_n44 : GoodIn wsX2_digestedAs (wsX5_toldAs) := ggX2_digestedAs_X5_toldAs
theorem dX2_digestedAs_0 : decode cX2_digestedAs 0 = .ok (.aload_n 0, 1) := by decide +kernel
theorem dX2_digestedAs_1 : decode cX2_digestedAs 1 = .ok (.ifnonnull 5, 3) := by decide +kernel
theorem dX2_digestedAs_4 : decode cX2_digestedAs 4 = .ok (.lconst 0, 1) := by decide +kernel
theorem dX2_digestedAs_5 : decode cX2_digestedAs 5 = .ok (.lreturn, 1) := by decide +kernel
theorem dX2_digestedAs_6 : decode cX2_digestedAs 6 = .ok (.aload_n 0, 1) := by decide +kernel
theorem dX2_digestedAs_7 : decode cX2_digestedAs 7 = .ok (.instanceof 38, 3) := by decide +kernel
theorem dX2_digestedAs_10 : decode cX2_digestedAs 10 = .ok (.ifCond .eq 13, 3) := by decide +kernel
theorem dX2_digestedAs_13 : decode cX2_digestedAs 13 = .ok (.aload_n 0, 1) := by decide +kernel
theorem dX2_digestedAs_14 : decode cX2_digestedAs 14 = .ok (.checkcast 38, 3) := by decide +kernel
theorem dX2_digestedAs_17 : decode cX2_digestedAs 17 = .ok (.astore_n 1, 1) := by decide +kernel
theorem dX2_digestedAs_18 : decode cX2_digestedAs 18 = .ok (.aload_n 1, 1) := by decide +kernel
theorem dX2_digestedAs_19 : decode cX2_digestedAs 19 = .ok (.invokevirtual 40, 3) := by decide +kernel
theorem dX2_digestedAs_22 : decode cX2_digestedAs 22 = .ok (.lreturn, 1) := by decide +kernel
theorem dX2_digestedAs_23 : decode cX2_digestedAs 23 = .ok (.aload_n 0, 1) := by decide +kernel
theorem dX2_digestedAs_24 : decode cX2_digestedAs 24 = .ok (.invokestatic 44, 3) := by decide +kernel
theorem dX2_digestedAs_27 : decode cX2_digestedAs 27 = .ok (.lreturn, 1) := by decide +kernel
set_option maxRecDepth 20000 in
theorem ggX3_init_X0_init : GoodIn wsX3_init wsX0_init := goodIn_r _ [5, 6, 7, 8, 9, 10, 11, 12, 13, 14, 15, 16, 17, 18, 19] (by decide +kernel) (by decide +kernel)
set_option maxRecDepth 20000 in
theorem gX3_init_X0_init : GoodIn wsX3_init (wsX0_init) := ggX3_init_X0_init
theorem dX3_init_0 : decode cX3_init 0 = .ok (.aload_n 0, 1) := by decide +kernel
theorem dX3_init_1 : decode cX3_init 1 = .ok (.iload_n 1, 1) := by decide +kernel
theorem dX3_init_2 : decode cX3_init 2 = .ok (.invokespecial 1, 3) := by decide +kernel
theorem dX3_init_5 : decode cX3_init 5 = .ok (.aload_n 0, 1) := by decide +kernel
theorem dX3_init_6 : decode cX3_init 6 = .ok (.iload_n 2, 1) := by decide +kernel
theorem dX3_init_7 : decode cX3_init 7 = .ok (.putfield 7, 3) := by decide +kernel
theorem dX3_init_10 : decode cX3_init 10 = .ok (.return_, 1) := by decide +kernel
theorem dX3_hasElement_0 : decode cX3_hasElement 0 = .ok (.iload_n 1, 1) := by decide +kernel
theorem dX3_hasElement_1 : decode cX3_hasElement 1 = .ok (.ifCond .lt 15, 3) := by decide +kernel
theorem dX3_hasElement_4 : decode cX3_hasElement 4 = .ok (.iload_n 1, 1) := by decide +kernel
theorem dX3_hasElement_5 : decode cX3_hasElement 5 = .ok (.aload_n 0, 1) := by decide +kernel
theorem dX3_hasElement_6 : decode cX3_hasElement 6 = .ok (.getfield 7, 3) := by decide +kernel
theorem dX3_hasElement_9 : decode cX3_hasElement 9 = .ok (.if_icmp .ge 7, 3) := by decide +kernel
theorem dX3_hasElement_12 : decode cX3_hasElement 12 = .ok (.iconst 1, 1) := by decide +kernel
theorem dX3_hasElement_13 : decode cX3_hasElement 13 = .ok (.goto 4, 3) := by decide +kernel
theorem dX3_hasElement_16 : decode cX3_hasElement 16 = .ok (.iconst 0, 1) := by decide +kernel
theorem dX3_hasElement_17 : decode cX3_hasElement 17 = .ok (.ireturn, 1) := by decide +kernel
theorem dX3_hasSpan_0 : decode cX3_hasSpan 0 = .ok (.iload_n 1, 1) := by decide +kernel
theorem dX3_hasSpan_1 : decode cX3_hasSpan 1 = .ok (.ifCond .lt 25, 3) := by decide +kernel
theorem dX3_hasSpan_4 : decode cX3_hasSpan 4 = .ok (.iload_n 2, 1) := by decide +kernel
theorem dX3_hasSpan_5 : decode cX3_hasSpan 5 = .ok (.ifCond .lt 21, 3) := by decide +kernel
theorem dX3_hasSpan_8 : decode cX3_hasSpan 8 = .ok (.iload_n 1, 1) := by decide +kernel
theorem dX3_hasSpan_9 : decode cX3_hasSpan 9 = .ok (.i2l, 1) := by decide +kernel
theorem dX3_hasSpan_10 : decode cX3_hasSpan 10 = .ok (.iload_n 2, 1) := by decide +kernel
theorem dX3_hasSpan_11 : decode cX3_hasSpan 11 = .ok (.i2l, 1) := by decide +kernel
theorem dX3_hasSpan_12 : decode cX3_hasSpan 12 = .ok (.ladd, 1) := by decide +kernel
theorem dX3_hasSpan_13 : decode cX3_hasSpan 13 = .ok (.aload_n 0, 1) := by decide +kernel
theorem dX3_hasSpan_14 : decode cX3_hasSpan 14 = .ok (.getfield 7, 3) := by decide +kernel
theorem dX3_hasSpan_17 : decode cX3_hasSpan 17 = .ok (.i2l, 1) := by decide +kernel
theorem dX3_hasSpan_18 : decode cX3_hasSpan 18 = .ok (.lcmp, 1) := by decide +kernel
theorem dX3_hasSpan_19 : decode cX3_hasSpan 19 = .ok (.ifCond .gt 7, 3) := by decide +kernel
theorem dX3_hasSpan_22 : decode cX3_hasSpan 22 = .ok (.iconst 1, 1) := by decide +kernel
theorem dX3_hasSpan_23 : decode cX3_hasSpan 23 = .ok (.goto 4, 3) := by decide +kernel
theorem dX3_hasSpan_26 : decode cX3_hasSpan 26 = .ok (.iconst 0, 1) := by decide +kernel
theorem dX3_hasSpan_27 : decode cX3_hasSpan 27 = .ok (.ireturn, 1) := by decide +kernel
set_option maxRecDepth 20000 in
theorem ggX4_init_X0_init : GoodIn wsX4_init wsX0_init := goodIn_r _ [5, 6, 7, 8, 9, 12, 13, 14, 15, 16, 17, 18, 19, 10, 11] (by decide +kernel) (by decide +kernel)
set_option maxRecDepth 20000 in
theorem gX4_init_X0_init : GoodIn wsX4_init (wsX0_init) := ggX4_init_X0_init
theorem dX4_init_0 : decode cX4_init 0 = .ok (.aload_n 0, 1) := by decide +kernel
theorem dX4_init_1 : decode cX4_init 1 = .ok (.iload_n 1, 1) := by decide +kernel
theorem dX4_init_2 : decode cX4_init 2 = .ok (.invokespecial 1, 3) := by decide +kernel
theorem dX4_init_5 : decode cX4_init 5 = .ok (.aload_n 0, 1) := by decide +kernel
theorem dX4_init_6 : decode cX4_init 6 = .ok (.iload_n 2, 1) := by decide +kernel
theorem dX4_init_7 : decode cX4_init 7 = .ok (.putfield 7, 3) := by decide +kernel
theorem dX4_init_10 : decode cX4_init 10 = .ok (.return_, 1) := by decide +kernel
theorem dX5_init_0 : decode cX5_init 0 = .ok (.aload_n 0, 1) := by decide +kernel
theorem dX5_init_1 : decode cX5_init 1 = .ok (.invokespecial 1, 3) := by decide +kernel
theorem dX5_init_4 : decode cX5_init 4 = .ok (.aload_n 0, 1) := by decide +kernel
theorem dX5_init_5 : decode cX5_init 5 = .ok (.sipush 400, 3) := by decide +kernel
theorem dX5_init_8 : decode cX5_init 8 = .ok (.anewarray 9, 3) := by decide +kernel
theorem dX5_init_11 : decode cX5_init 11 = .ok (.putfield 11, 3) := by decide +kernel
theorem dX5_init_14 : decode cX5_init 14 = .ok (.aload_n 0, 1) := by decide +kernel
theorem dX5_init_15 : decode cX5_init 15 = .ok (.sipush 320, 3) := by decide +kernel
theorem dX5_init_18 : decode cX5_init 18 = .ok (.newarray .int, 2) := by decide +kernel
theorem dX5_init_20 : decode cX5_init 20 = .ok (.putfield 15, 3) := by decide +kernel
theorem dX5_init_23 : decode cX5_init 23 = .ok (.aload_n 0, 1) := by decide +kernel
theorem dX5_init_24 : decode cX5_init 24 = .ok (.iconst 0, 1) := by decide +kernel
theorem dX5_init_25 : decode cX5_init 25 = .ok (.putfield 19, 3) := by decide +kernel
theorem dX5_init_28 : decode cX5_init 28 = .ok (.aload_n 0, 1) := by decide +kernel
theorem dX5_init_29 : decode cX5_init 29 = .ok (.ldc 23, 2) := by decide +kernel
theorem dX5_init_31 : decode cX5_init 31 = .ok (.putfield 24, 3) := by decide +kernel
theorem dX5_init_34 : decode cX5_init 34 = .ok (.aload_n 0, 1) := by decide +kernel
theorem dX5_init_35 : decode cX5_init 35 = .ok (.iconst 0, 1) := by decide +kernel
theorem dX5_init_36 : decode cX5_init 36 = .ok (.putfield 27, 3) := by decide +kernel
theorem dX5_init_39 : decode cX5_init 39 = .ok (.aload_n 0, 1) := by decide +kernel
theorem dX5_init_40 : decode cX5_init 40 = .ok (.iconst 0, 1) := by decide +kernel
theorem dX5_init_41 : decode cX5_init 41 = .ok (.putfield 30, 3) := by decide +kernel
theorem dX5_init_44 : decode cX5_init 44 = .ok (.aload_n 0, 1) := by decide +kernel
theorem dX5_init_45 : decode cX5_init 45 = .ok (.iconst 0, 1) := by decide +kernel
theorem dX5_init_46 : decode cX5_init 46 = .ok (.putfield 33, 3) := by decide +kernel
theorem dX5_init_49 : decode cX5_init 49 = .ok (.aload_n 0, 1) := by decide +kernel
theorem dX5_init_50 : decode cX5_init 50 = .ok (.iconst 0, 1) := by decide +kernel
theorem dX5_init_51 : decode cX5_init 51 = .ok (.putfield 36, 3) := by decide +kernel
theorem dX5_init_54 : decode cX5_init 54 = .ok (.aload_n 0, 1) := by decide +kernel
theorem dX5_init_55 : decode cX5_init 55 = .ok (.iconst 0, 1) := by decide +kernel
theorem dX5_init_56 : decode cX5_init 56 = .ok (.putfield 39, 3) := by decide +kernel
theorem dX5_init_59 : decode cX5_init 59 = .ok (.return_, 1) := by decide +kernel
set_option maxRecDepth 20000 in
theorem ggX5_row_X5_lowestEmptyPlace : GoodIn wsX5_row wsX5_lowestEmptyPlace := goodIn_r _ [13, 2, 38, 39, 40, 41, 42, 43, 44, 45, 46] (by decide +kernel) (by decide +kernel)
set_option maxRecDepth 20000 in
theorem gX5_row_X5_lowestEmptyPlace : GoodIn wsX5_row (wsV RX5 42 RX5 yX5_lowestEmptyPlace wsX5_lowestEmptyPlace) := goodIn_app (goodIn_of _ (by decide +kernel)) ggX5_row_X5_lowestEmptyPlace
set_option maxRecDepth 20000 in
theorem ggX5_row_X1_init : GoodIn wsX5_row wsX1_init := goodIn_r _ [16, 17, 18, 19, 20, 21, 22, 23, 24, 25, 26, 27, 28, 29, 30, 31, 47, 48, 49, 50, 51, 52, 53, 54, 55, 56] (by decide +kernel) (by decide +kernel)
set_option maxRecDepth 20000 in
theorem gX5_row_X1_init : GoodIn wsX5_row (wsX1_init) := ggX5_row_X1_init
set_option maxRecDepth 20000 in
theorem ggX5_row_X2_init : GoodIn wsX5_row wsX2_init := goodIn_r _ [34, 35, 36, 37, 20, 21, 22, 23, 24, 25, 26, 27, 28, 29, 30, 31, 52, 53, 54, 47, 48, 49, 50, 51, 55, 56] (by decide +kernel) (by decide +kernel)
set_option maxRecDepth 20000 in
theorem gX5_row_X2_init : GoodIn wsX5_row (wsX2_init) := ggX5_row_X2_init
theorem dX5_row_0 : decode cX5_row 0 = .ok (.iload_n 1, 1) := by decide +kernel
theorem dX5_row_1 : decode cX5_row 1 = .ok (.ifCond .lt 9, 3) := by decide +kernel
theorem dX5_row_4 : decode cX5_row 4 = .ok (.iload_n 1, 1) := by decide +kernel
theorem dX5_row_5 : decode cX5_row 5 = .ok (.bipush 6, 2) := by decide +kernel
theorem dX5_row_7 : decode cX5_row 7 = .ok (.if_icmp .le 5, 3) := by decide +kernel
theorem dX5_row_10 : decode cX5_row 10 = .ok (.iconst (-1), 1) := by decide +kernel
theorem dX5_row_11 : decode cX5_row 11 = .ok (.ireturn, 1) := by decide +kernel
theorem dX5_row_12 : decode cX5_row 12 = .ok (.aload_n 0, 1) := by decide +kernel
theorem dX5_row_13 : decode cX5_row 13 = .ok (.invokevirtual 42, 3) := by decide +kernel
theorem dX5_row_16 : decode cX5_row 16 = .ok (.istore_n 3, 1) := by decide +kernel
theorem dX5_row_17 : decode cX5_row 17 = .ok (.iload_n 2, 1) := by decide +kernel
theorem dX5_row_18 : decode cX5_row 18 = .ok (.sipush 2000, 3) := by decide +kernel
theorem dX5_row_21 : decode cX5_row 21 = .ok (.if_icmp .gt 18, 3) := by decide +kernel
theorem dX5_row_24 : decode cX5_row 24 = .ok (.iload_n 3, 1) := by decide +kernel
theorem dX5_row_25 : decode cX5_row 25 = .ok (.iconst (-1), 1) := by decide +kernel
theorem dX5_row_26 : decode cX5_row 26 = .ok (.if_icmp .eq 13, 3) := by decide +kernel
theorem dX5_row_29 : decode cX5_row 29 = .ok (.aload_n 0, 1) := by decide +kernel
theorem dX5_row_30 : decode cX5_row 30 = .ok (.getfield 24, 3) := by decide +kernel
theorem dX5_row_33 : decode cX5_row 33 = .ok (.iload_n 2, 1) := by decide +kernel
theorem dX5_row_34 : decode cX5_row 34 = .ok (.iconst 1, 1) := by decide +kernel
theorem dX5_row_35 : decode cX5_row 35 = .ok (.iadd, 1) := by decide +kernel
theorem dX5_row_36 : decode cX5_row 36 = .ok (.if_icmp .ge 6, 3) := by decide +kernel
theorem dX5_row_39 : decode cX5_row 39 = .ok (.bipush (-2), 2) := by decide +kernel
theorem dX5_row_41 : decode cX5_row 41 = .ok (.ireturn, 1) := by decide +kernel
theorem dX5_row_42 : decode cX5_row 42 = .ok (.iload_n 2, 1) := by decide +kernel
theorem dX5_row_43 : decode cX5_row 43 = .ok (.ifCond .ge 6, 3) := by decide +kernel
theorem dX5_row_46 : decode cX5_row 46 = .ok (.bipush (-3), 2) := by decide +kernel
theorem dX5_row_48 : decode cX5_row 48 = .ok (.ireturn, 1) := by decide +kernel
theorem dX5_row_49 : decode cX5_row 49 = .ok (.aload_n 0, 1) := by decide +kernel
theorem dX5_row_50 : decode cX5_row 50 = .ok (.dup, 1) := by decide +kernel
theorem dX5_row_51 : decode cX5_row 51 = .ok (.getfield 24, 3) := by decide +kernel
theorem dX5_row_54 : decode cX5_row 54 = .ok (.iload_n 2, 1) := by decide +kernel
theorem dX5_row_55 : decode cX5_row 55 = .ok (.iconst 1, 1) := by decide +kernel
theorem dX5_row_56 : decode cX5_row 56 = .ok (.iadd, 1) := by decide +kernel
theorem dX5_row_57 : decode cX5_row 57 = .ok (.isub, 1) := by decide +kernel
theorem dX5_row_58 : decode cX5_row 58 = .ok (.putfield 24, 3) := by decide +kernel
theorem dX5_row_61 : decode cX5_row 61 = .ok (.aload_n 0, 1) := by decide +kernel
theorem dX5_row_62 : decode cX5_row 62 = .ok (.getfield 11, 3) := by decide +kernel
theorem dX5_row_65 : decode cX5_row 65 = .ok (.iload_n 3, 1) := by decide +kernel
theorem dX5_row_66 : decode cX5_row 66 = .ok (.iload_n 1, 1) := by decide +kernel
theorem dX5_row_67 : decode cX5_row 67 = .ok (.iconst 3, 1) := by decide +kernel
theorem dX5_row_68 : decode cX5_row 68 = .ok (.if_icmp .gt 15, 3) := by decide +kernel
theorem dX5_row_71 : decode cX5_row 71 = .ok (.new 46, 3) := by decide +kernel
theorem dX5_row_74 : decode cX5_row 74 = .ok (.dup, 1) := by decide +kernel
theorem dX5_row_75 : decode cX5_row 75 = .ok (.iload_n 1, 1) := by decide +kernel
theorem dX5_row_76 : decode cX5_row 76 = .ok (.iload_n 2, 1) := by decide +kernel
theorem dX5_row_77 : decode cX5_row 77 = .ok (.invokespecial 48, 3) := by decide +kernel
theorem dX5_row_80 : decode cX5_row 80 = .ok (.goto 12, 3) := by decide +kernel
theorem dX5_row_83 : decode cX5_row 83 = .ok (.new 51, 3) := by decide +kernel
theorem dX5_row_86 : decode cX5_row 86 = .ok (.dup, 1) := by decide +kernel
theorem dX5_row_87 : decode cX5_row 87 = .ok (.iload_n 1, 1) := by decide +kernel
theorem dX5_row_88 : decode cX5_row 88 = .ok (.iload_n 2, 1) := by decide +kernel
theorem dX5_row_89 : decode cX5_row 89 = .ok (.invokespecial 53, 3) := by decide +kernel
theorem dX5_row_92 : decode cX5_row 92 = .ok (.aastore, 1) := by decide +kernel
theorem dX5_row_93 : decode cX5_row 93 = .ok (.iload_n 3, 1) := by decide +kernel
theorem dX5_row_94 : decode cX5_row 94 = .ok (.ireturn, 1) := by decide +kernel
set_option maxRecDepth 20000 in
theorem ggX5_mark_X5_newThing : GoodIn wsX5_mark wsX5_newThing := goodIn_r _ [5, 6, 7, 8, 9, 10, 11, 12, 13, 4, 14, 15, 16, 17, 18, 19, 20, 21, 22, 23, 24, 25, 26, 27, 28, 29, 30, 31, 32, 33, 34, 35, 36, 37, 38, 39, 40, 41, 42, 43, 44, 45] (by decide +kernel) (by decide +kernel)
set_option maxRecDepth 20000 in
theorem gX5_mark_X5_newThing : GoodIn wsX5_mark (wsV RX5 54 RX5 yX5_newThing wsX5_newThing) := goodIn_app (goodIn_of _ (by decide +kernel)) ggX5_mark_X5_newThing
theorem dX5_mark_0 : decode cX5_mark 0 = .ok (.aload_n 0, 1) := by decide +kernel
theorem dX5_mark_1 : decode cX5_mark 1 = .ok (.bipush 7, 2) := by decide +kernel
theorem dX5_mark_3 : decode cX5_mark 3 = .ok (.iload_n 1, 1) := by decide +kernel
theorem dX5_mark_4 : decode cX5_mark 4 = .ok (.invokevirtual 54, 3) := by decide +kernel
theorem dX5_mark_7 : decode cX5_mark 7 = .ok (.ireturn, 1) := by decide +kernel
set_option maxRecDepth 20000 in
theorem ggX5_seal_X5_newThing : GoodIn wsX5_seal wsX5_newThing := goodIn_r _ [5, 6, 7, 8, 9, 10, 11, 12, 13, 4, 14, 15, 16, 17, 18, 19, 20, 21, 22, 23, 24, 25, 26, 27, 28, 29, 30, 31, 32, 33, 34, 35, 36, 37, 38, 39, 40, 41, 42, 43, 44, 45] (by decide +kernel) (by decide +kernel)
set_option maxRecDepth 20000 in
theorem gX5_seal_X5_newThing : GoodIn wsX5_seal (wsV RX5 54 RX5 yX5_newThing wsX5_newThing) := goodIn_app (goodIn_of _ (by decide +kernel)) ggX5_seal_X5_newThing
theorem dX5_seal_0 : decode cX5_seal 0 = .ok (.aload_n 0, 1) := by decide +kernel
theorem dX5_seal_1 : decode cX5_seal 1 = .ok (.bipush 8, 2) := by decide +kernel
theorem dX5_seal_3 : decode cX5_seal 3 = .ok (.iload_n 1, 1) := by decide +kernel
theorem dX5_seal_4 : decode cX5_seal 4 = .ok (.invokevirtual 54, 3) := by decide +kernel
theorem dX5_seal_7 : decode cX5_seal 7 = .ok (.ireturn, 1) := by decide +kernel
set_option maxRecDepth 20000 in
theorem ggX5_kindOf_X5_itemAt : GoodIn wsX5_kindOf wsX5_itemAt := goodIn_r _ [6, 7, 18, 19, 20, 21, 22, 23, 24, 25, 26] (by decide +kernel) (by decide +kernel)
set_option maxRecDepth 20000 in
theorem gX5_kindOf_X5_itemAt : GoodIn wsX5_kindOf (wsV RX5 58 RX5 yX5_itemAt wsX5_itemAt) := goodIn_app (goodIn_of _ (by decide +kernel)) ggX5_kindOf_X5_itemAt
theorem dX5_kindOf_0 : decode cX5_kindOf 0 = .ok (.aload_n 0, 1) := by decide +kernel
theorem dX5_kindOf_1 : decode cX5_kindOf 1 = .ok (.iload_n 1, 1) := by decide +kernel
theorem dX5_kindOf_2 : decode cX5_kindOf 2 = .ok (.invokevirtual 58, 3) := by decide +kernel
theorem dX5_kindOf_5 : decode cX5_kindOf 5 = .ok (.astore_n 2, 1) := by decide +kernel
theorem dX5_kindOf_6 : decode cX5_kindOf 6 = .ok (.aload_n 2, 1) := by decide +kernel
theorem dX5_kindOf_7 : decode cX5_kindOf 7 = .ok (.ifnonnull 7, 3) := by decide +kernel
theorem dX5_kindOf_10 : decode cX5_kindOf 10 = .ok (.iconst (-1), 1) := by decide +kernel
theorem dX5_kindOf_11 : decode cX5_kindOf 11 = .ok (.goto 7, 3) := by decide +kernel
theorem dX5_kindOf_14 : decode cX5_kindOf 14 = .ok (.aload_n 2, 1) := by decide +kernel
theorem dX5_kindOf_15 : decode cX5_kindOf 15 = .ok (.getfield 62, 3) := by decide +kernel
theorem dX5_kindOf_18 : decode cX5_kindOf 18 = .ok (.ireturn, 1) := by decide +kernel
set_option maxRecDepth 20000 in
theorem ggX5_length_X5_itemAt : GoodIn wsX5_length wsX5_itemAt := goodIn_r _ [7, 8, 17, 18, 19, 20, 21, 22, 23, 24, 25] (by decide +kernel) (by decide +kernel)
set_option maxRecDepth 20000 in
theorem gX5_length_X5_itemAt : GoodIn wsX5_length (wsV RX5 58 RX5 yX5_itemAt wsX5_itemAt) := goodIn_app (goodIn_of _ (by decide +kernel)) ggX5_length_X5_itemAt
theorem dX5_length_0 : decode cX5_length 0 = .ok (.aload_n 0, 1) := by decide +kernel
theorem dX5_length_1 : decode cX5_length 1 = .ok (.iload_n 1, 1) := by decide +kernel
theorem dX5_length_2 : decode cX5_length 2 = .ok (.invokevirtual 58, 3) := by decide +kernel
theorem dX5_length_5 : decode cX5_length 5 = .ok (.astore_n 2, 1) := by decide +kernel
theorem dX5_length_6 : decode cX5_length 6 = .ok (.aload_n 2, 1) := by decide +kernel
theorem dX5_length_7 : decode cX5_length 7 = .ok (.ifnonnull 5, 3) := by decide +kernel
theorem dX5_length_10 : decode cX5_length 10 = .ok (.iconst (-1), 1) := by decide +kernel
theorem dX5_length_11 : decode cX5_length 11 = .ok (.ireturn, 1) := by decide +kernel
theorem dX5_length_12 : decode cX5_length 12 = .ok (.aload_n 2, 1) := by decide +kernel
theorem dX5_length_13 : decode cX5_length 13 = .ok (.instanceof 65, 3) := by decide +kernel
theorem dX5_length_16 : decode cX5_length 16 = .ok (.ifCond .eq 15, 3) := by decide +kernel
theorem dX5_length_19 : decode cX5_length 19 = .ok (.aload_n 2, 1) := by decide +kernel
theorem dX5_length_20 : decode cX5_length 20 = .ok (.checkcast 65, 3) := by decide +kernel
theorem dX5_length_23 : decode cX5_length 23 = .ok (.astore_n 3, 1) := by decide +kernel
theorem dX5_length_24 : decode cX5_length 24 = .ok (.aload_n 3, 1) := by decide +kernel
theorem dX5_length_25 : decode cX5_length 25 = .ok (.getfield 67, 3) := by decide +kernel
theorem dX5_length_28 : decode cX5_length 28 = .ok (.goto 5, 3) := by decide +kernel
theorem dX5_length_31 : decode cX5_length 31 = .ok (.bipush (-2), 2) := by decide +kernel
theorem dX5_length_33 : decode cX5_length 33 = .ok (.ireturn, 1) := by decide +kernel
set_option maxRecDepth 20000 in
theorem ggX5_set_X5_itemAt : GoodIn wsX5_set wsX5_itemAt := goodIn_r _ [6, 7, 35, 36, 37, 38, 39, 40, 41, 42, 43] (by decide +kernel) (by decide +kernel)
set_option maxRecDepth 20000 in
theorem gX5_set_X5_itemAt : GoodIn wsX5_set (wsV RX5 58 RX5 yX5_itemAt wsX5_itemAt) := goodIn_app (goodIn_of _ (by decide +kernel)) ggX5_set_X5_itemAt
set_option maxRecDepth 20000 in
theorem ggX5_set_X5_refusalAt : GoodIn wsX5_set wsX5_refusalAt := goodIn_r _ [10, 11, 12, 13, 14, 15, 16, 17, 18, 19, 20, 21, 44, 45, 46, 47, 48, 49, 50, 51, 52, 53] (by decide +kernel) (by decide +kernel)
set_option maxRecDepth 20000 in
theorem gX5_set_X5_refusalAt : GoodIn wsX5_set (va_wsS RX5 70 yX5_refusalAt wsX5_refusalAt) := goodIn_app (goodIn_of _ (by decide +kernel)) ggX5_set_X5_refusalAt
set_option maxRecDepth 20000 in
theorem ggX5_set_X1_put : GoodIn wsX5_set wsX1_put := goodIn_r _ [26, 27, 28, 29, 30, 31, 25, 32, 33, 34, 44, 45, 46, 47, 48, 49, 50, 51, 52, 53] (by decide +kernel) (by decide +kernel)
set_option maxRecDepth 20000 in
theorem gX5_set_X1_put : GoodIn wsX5_set (wsV RX5 74 RX1 yX1_put wsX1_put) := goodIn_app (goodIn_of _ (by decide +kernel)) ggX5_set_X1_put
theorem dX5_set_0 : decode cX5_set 0 = .ok (.aload_n 0, 1) := by decide +kernel
theorem dX5_set_1 : decode cX5_set 1 = .ok (.iload_n 1, 1) := by decide +kernel
theorem dX5_set_2 : decode cX5_set 2 = .ok (.invokevirtual 58, 3) := by decide +kernel
theorem dX5_set_5 : decode cX5_set 5 = .ok (.astore 5, 2) := by decide +kernel
theorem dX5_set_7 : decode cX5_set 7 = .ok (.aload 5, 2) := by decide +kernel
theorem dX5_set_9 : decode cX5_set 9 = .ok (.iload_n 2, 1) := by decide +kernel
theorem dX5_set_10 : decode cX5_set 10 = .ok (.iconst 0, 1) := by decide +kernel
theorem dX5_set_11 : decode cX5_set 11 = .ok (.iconst 3, 1) := by decide +kernel
theorem dX5_set_12 : decode cX5_set 12 = .ok (.invokestatic 70, 3) := by decide +kernel
theorem dX5_set_15 : decode cX5_set 15 = .ok (.istore 6, 2) := by decide +kernel
theorem dX5_set_17 : decode cX5_set 17 = .ok (.iload 6, 2) := by decide +kernel
theorem dX5_set_19 : decode cX5_set 19 = .ok (.ifCond .ne 25, 3) := by decide +kernel
theorem dX5_set_22 : decode cX5_set 22 = .ok (.aload 5, 2) := by decide +kernel
theorem dX5_set_24 : decode cX5_set 24 = .ok (.instanceof 46, 3) := by decide +kernel
theorem dX5_set_27 : decode cX5_set 27 = .ok (.ifCond .eq 17, 3) := by decide +kernel
theorem dX5_set_30 : decode cX5_set 30 = .ok (.aload 5, 2) := by decide +kernel
theorem dX5_set_32 : decode cX5_set 32 = .ok (.checkcast 46, 3) := by decide +kernel
theorem dX5_set_35 : decode cX5_set 35 = .ok (.astore 7, 2) := by decide +kernel
theorem dX5_set_37 : decode cX5_set 37 = .ok (.aload 7, 2) := by decide +kernel
theorem dX5_set_39 : decode cX5_set 39 = .ok (.iload_n 2, 1) := by decide +kernel
theorem dX5_set_40 : decode cX5_set 40 = .ok (.lload_n 3, 1) := by decide +kernel
theorem dX5_set_41 : decode cX5_set 41 = .ok (.invokevirtual 74, 3) := by decide +kernel
theorem dX5_set_44 : decode cX5_set 44 = .ok (.iload 6, 2) := by decide +kernel
theorem dX5_set_46 : decode cX5_set 46 = .ok (.ireturn, 1) := by decide +kernel
set_option maxRecDepth 20000 in
theorem ggX5_setThing_X5_itemAt : GoodIn wsX5_setThing wsX5_itemAt := goodIn_r _ [6, 7, 35, 36, 37, 38, 39, 40, 41, 42, 43] (by decide +kernel) (by decide +kernel)
set_option maxRecDepth 20000 in
theorem gX5_setThing_X5_itemAt : GoodIn wsX5_setThing (wsV RX5 58 RX5 yX5_itemAt wsX5_itemAt) := goodIn_app (goodIn_of _ (by decide +kernel)) ggX5_setThing_X5_itemAt
set_option maxRecDepth 20000 in
theorem ggX5_setThing_X5_refusalAt : GoodIn wsX5_setThing wsX5_refusalAt := goodIn_r _ [10, 11, 12, 13, 14, 15, 16, 17, 18, 19, 20, 21, 44, 45, 46, 47, 48, 49, 50, 51, 52, 53] (by decide +kernel) (by decide +kernel)
set_option maxRecDepth 20000 in
theorem gX5_setThing_X5_refusalAt : GoodIn wsX5_setThing (va_wsS RX5 70 yX5_refusalAt wsX5_refusalAt) := goodIn_app (goodIn_of _ (by decide +kernel)) ggX5_setThing_X5_refusalAt
set_option maxRecDepth 20000 in
theorem ggX5_setThing_X2_isFitFor : GoodIn wsX5_setThing wsX2_isFitFor := goodIn_r _ [26, 27, 28, 29, 44, 45, 46, 47, 48, 49, 50, 51, 52, 53] (by decide +kernel) (by decide +kernel)
set_option maxRecDepth 20000 in
theorem gX5_setThing_X2_isFitFor : GoodIn wsX5_setThing (wsV RX5 78 RX2 yX2_isFitFor wsX2_isFitFor) := goodIn_app (goodIn_of _ (by decide +kernel)) ggX5_setThing_X2_isFitFor
set_option maxRecDepth 20000 in
theorem ggX5_setThing_X2_putObject : GoodIn wsX5_setThing wsX2_putObject := goodIn_r _ [33, 34, 49, 50, 51] (by decide +kernel) (by decide +kernel)
set_option maxRecDepth 20000 in
theorem gX5_setThing_X2_putObject : GoodIn wsX5_setThing (wsV RX5 82 RX2 yX2_putObject wsX2_putObject) := goodIn_app (goodIn_of _ (by decide +kernel)) ggX5_setThing_X2_putObject
theorem dX5_setThing_0 : decode cX5_setThing 0 = .ok (.aload_n 0, 1) := by decide +kernel
theorem dX5_setThing_1 : decode cX5_setThing 1 = .ok (.iload_n 1, 1) := by decide +kernel
theorem dX5_setThing_2 : decode cX5_setThing 2 = .ok (.invokevirtual 58, 3) := by decide +kernel
theorem dX5_setThing_5 : decode cX5_setThing 5 = .ok (.astore 4, 2) := by decide +kernel
theorem dX5_setThing_7 : decode cX5_setThing 7 = .ok (.aload_n 0, 1) := by decide +kernel
theorem dX5_setThing_8 : decode cX5_setThing 8 = .ok (.iload_n 3, 1) := by decide +kernel
theorem dX5_setThing_9 : decode cX5_setThing 9 = .ok (.invokevirtual 58, 3) := by decide +kernel
theorem dX5_setThing_12 : decode cX5_setThing 12 = .ok (.astore 5, 2) := by decide +kernel
theorem dX5_setThing_14 : decode cX5_setThing 14 = .ok (.aload 5, 2) := by decide +kernel
theorem dX5_setThing_16 : decode cX5_setThing 16 = .ok (.ifnonnull 10, 3) := by decide +kernel
theorem dX5_setThing_19 : decode cX5_setThing 19 = .ok (.iload_n 3, 1) := by decide +kernel
theorem dX5_setThing_20 : decode cX5_setThing 20 = .ok (.iconst (-1), 1) := by decide +kernel
theorem dX5_setThing_21 : decode cX5_setThing 21 = .ok (.if_icmp .eq 5, 3) := by decide +kernel
theorem dX5_setThing_24 : decode cX5_setThing 24 = .ok (.iconst 1, 1) := by decide +kernel
theorem dX5_setThing_25 : decode cX5_setThing 25 = .ok (.ireturn, 1) := by decide +kernel
theorem dX5_setThing_26 : decode cX5_setThing 26 = .ok (.aload 4, 2) := by decide +kernel
theorem dX5_setThing_28 : decode cX5_setThing 28 = .ok (.iload_n 2, 1) := by decide +kernel
theorem dX5_setThing_29 : decode cX5_setThing 29 = .ok (.iconst 4, 1) := by decide +kernel
theorem dX5_setThing_30 : decode cX5_setThing 30 = .ok (.bipush 6, 2) := by decide +kernel
theorem dX5_setThing_32 : decode cX5_setThing 32 = .ok (.invokestatic 70, 3) := by decide +kernel
theorem dX5_setThing_35 : decode cX5_setThing 35 = .ok (.istore 6, 2) := by decide +kernel
theorem dX5_setThing_37 : decode cX5_setThing 37 = .ok (.iload 6, 2) := by decide +kernel
theorem dX5_setThing_39 : decode cX5_setThing 39 = .ok (.ifCond .ne 38, 3) := by decide +kernel
theorem dX5_setThing_42 : decode cX5_setThing 42 = .ok (.aload 4, 2) := by decide +kernel
theorem dX5_setThing_44 : decode cX5_setThing 44 = .ok (.instanceof 51, 3) := by decide +kernel
theorem dX5_setThing_47 : decode cX5_setThing 47 = .ok (.ifCond .eq 30, 3) := by decide +kernel
theorem dX5_setThing_50 : decode cX5_setThing 50 = .ok (.aload 4, 2) := by decide +kernel
theorem dX5_setThing_52 : decode cX5_setThing 52 = .ok (.checkcast 51, 3) := by decide +kernel
theorem dX5_setThing_55 : decode cX5_setThing 55 = .ok (.astore 7, 2) := by decide +kernel
theorem dX5_setThing_57 : decode cX5_setThing 57 = .ok (.aload 7, 2) := by decide +kernel
theorem dX5_setThing_59 : decode cX5_setThing 59 = .ok (.aload 5, 2) := by decide +kernel
theorem dX5_setThing_61 : decode cX5_setThing 61 = .ok (.invokevirtual 78, 3) := by decide +kernel
theorem dX5_setThing_64 : decode cX5_setThing 64 = .ok (.ifCond .ne 5, 3) := by decide +kernel
theorem dX5_setThing_67 : decode cX5_setThing 67 = .ok (.iconst 5, 1) := by decide +kernel
theorem dX5_setThing_68 : decode cX5_setThing 68 = .ok (.ireturn, 1) := by decide +kernel
theorem dX5_setThing_69 : decode cX5_setThing 69 = .ok (.aload 7, 2) := by decide +kernel
theorem dX5_setThing_71 : decode cX5_setThing 71 = .ok (.iload_n 2, 1) := by decide +kernel
theorem dX5_setThing_72 : decode cX5_setThing 72 = .ok (.aload 5, 2) := by decide +kernel
theorem dX5_setThing_74 : decode cX5_setThing 74 = .ok (.invokevirtual 82, 3) := by decide +kernel
theorem dX5_setThing_77 : decode cX5_setThing 77 = .ok (.iload 6, 2) := by decide +kernel
theorem dX5_setThing_79 : decode cX5_setThing 79 = .ok (.ireturn, 1) := by decide +kernel
set_option maxRecDepth 20000 in
theorem ggX5_get_X5_itemAt : GoodIn wsX5_get wsX5_itemAt := goodIn_r _ [8, 9, 47, 48, 49, 50, 51, 52, 53, 54, 55] (by decide +kernel) (by decide +kernel)
set_option maxRecDepth 20000 in
theorem gX5_get_X5_itemAt : GoodIn wsX5_get (wsV RX5 58 RX5 yX5_itemAt wsX5_itemAt) := goodIn_app (goodIn_of _ (by decide +kernel)) ggX5_get_X5_itemAt
set_option maxRecDepth 20000 in
theorem ggX5_get_X5_refusalAt : GoodIn wsX5_get wsX5_refusalAt := goodIn_r _ [12, 13, 14, 15, 16, 17, 18, 19, 20, 21, 22, 23, 56, 57, 58, 59, 60, 61, 62, 63, 64, 65] (by decide +kernel) (by decide +kernel)
set_option maxRecDepth 20000 in
theorem gX5_get_X5_refusalAt : GoodIn wsX5_get (va_wsS RX5 70 yX5_refusalAt wsX5_refusalAt) := goodIn_app (goodIn_of _ (by decide +kernel)) ggX5_get_X5_refusalAt
set_option maxRecDepth 20000 in
theorem ggX5_get_X1_numberAt : GoodIn wsX5_get wsX1_numberAt := goodIn_r _ [28, 29, 56, 57, 58, 59, 60] (by decide +kernel) (by decide +kernel)
set_option maxRecDepth 20000 in
theorem gX5_get_X1_numberAt : GoodIn wsX5_get (wsV RX5 86 RX1 yX1_numberAt wsX1_numberAt) := goodIn_app (goodIn_of _ (by decide +kernel)) ggX5_get_X1_numberAt
set_option maxRecDepth 20000 in
theorem ggX5_get_X2_objectAt : GoodIn wsX5_get wsX2_objectAt := goodIn_r _ [34, 35, 61, 62, 63] (by decide +kernel) (by decide +kernel)
set_option maxRecDepth 20000 in
theorem gX5_get_X2_objectAt : GoodIn wsX5_get (wsV RX5 90 RX2 yX2_objectAt wsX2_objectAt) := goodIn_app (goodIn_of _ (by decide +kernel)) ggX5_get_X2_objectAt
set_option maxRecDepth 20000 in
theorem ggX5_get_X5_toldAs : GoodIn wsX5_get wsX5_toldAs := goodIn_r _ [38, 39, 40, 41, 42, 43, 44, 13, 45, 46, 56, 57, 58, 59, 60, 61, 62, 63, 64, 65] (by decide +kernel) (by decide +kernel)
set_option maxRecDepth 20000 in
theorem gX5_get_X5_toldAs : GoodIn wsX5_get (va_wsS RX5 93 yX5_toldAs wsX5_toldAs) := goodIn_app (goodIn_of _ (by decide +kernel)) ggX5_get_X5_toldAs
theorem dX5_get_0 : decode cX5_get 0 = .ok (.aload_n 0, 1) := by decide +kernel
theorem dX5_get_1 : decode cX5_get 1 = .ok (.iload_n 1, 1) := by decide +kernel
theorem dX5_get_2 : decode cX5_get 2 = .ok (.invokevirtual 58, 3) := by decide +kernel
theorem dX5_get_5 : decode cX5_get 5 = .ok (.astore_n 3, 1) := by decide +kernel
theorem dX5_get_6 : decode cX5_get 6 = .ok (.aload_n 0, 1) := by decide +kernel
theorem dX5_get_7 : decode cX5_get 7 = .ok (.aload_n 3, 1) := by decide +kernel
theorem dX5_get_8 : decode cX5_get 8 = .ok (.iload_n 2, 1) := by decide +kernel
theorem dX5_get_9 : decode cX5_get 9 = .ok (.iconst 0, 1) := by decide +kernel
theorem dX5_get_10 : decode cX5_get 10 = .ok (.bipush 6, 2) := by decide +kernel
theorem dX5_get_12 : decode cX5_get 12 = .ok (.invokestatic 70, 3) := by decide +kernel
theorem dX5_get_15 : decode cX5_get 15 = .ok (.putfield 27, 3) := by decide +kernel
theorem dX5_get_18 : decode cX5_get 18 = .ok (.aload_n 0, 1) := by decide +kernel
theorem dX5_get_19 : decode cX5_get 19 = .ok (.getfield 27, 3) := by decide +kernel
theorem dX5_get_22 : decode cX5_get 22 = .ok (.ifCond .ne 23, 3) := by decide +kernel
theorem dX5_get_25 : decode cX5_get 25 = .ok (.aload_n 3, 1) := by decide +kernel
theorem dX5_get_26 : decode cX5_get 26 = .ok (.instanceof 46, 3) := by decide +kernel
theorem dX5_get_29 : decode cX5_get 29 = .ok (.ifCond .eq 16, 3) := by decide +kernel
theorem dX5_get_32 : decode cX5_get 32 = .ok (.aload_n 3, 1) := by decide +kernel
theorem dX5_get_33 : decode cX5_get 33 = .ok (.checkcast 46, 3) := by decide +kernel
theorem dX5_get_36 : decode cX5_get 36 = .ok (.astore 4, 2) := by decide +kernel
theorem dX5_get_38 : decode cX5_get 38 = .ok (.aload 4, 2) := by decide +kernel
theorem dX5_get_40 : decode cX5_get 40 = .ok (.iload_n 2, 1) := by decide +kernel
theorem dX5_get_41 : decode cX5_get 41 = .ok (.invokevirtual 86, 3) := by decide +kernel
theorem dX5_get_44 : decode cX5_get 44 = .ok (.lreturn, 1) := by decide +kernel
theorem dX5_get_45 : decode cX5_get 45 = .ok (.aload_n 0, 1) := by decide +kernel
theorem dX5_get_46 : decode cX5_get 46 = .ok (.getfield 27, 3) := by decide +kernel
theorem dX5_get_49 : decode cX5_get 49 = .ok (.ifCond .ne 26, 3) := by decide +kernel
theorem dX5_get_52 : decode cX5_get 52 = .ok (.aload_n 3, 1) := by decide +kernel
theorem dX5_get_53 : decode cX5_get 53 = .ok (.instanceof 51, 3) := by decide +kernel
theorem dX5_get_56 : decode cX5_get 56 = .ok (.ifCond .eq 19, 3) := by decide +kernel
theorem dX5_get_59 : decode cX5_get 59 = .ok (.aload_n 3, 1) := by decide +kernel
theorem dX5_get_60 : decode cX5_get 60 = .ok (.checkcast 51, 3) := by decide +kernel
theorem dX5_get_63 : decode cX5_get 63 = .ok (.astore 4, 2) := by decide +kernel
theorem dX5_get_65 : decode cX5_get 65 = .ok (.aload 4, 2) := by decide +kernel
theorem dX5_get_67 : decode cX5_get 67 = .ok (.iload_n 2, 1) := by decide +kernel
theorem dX5_get_68 : decode cX5_get 68 = .ok (.invokevirtual 90, 3) := by decide +kernel
theorem dX5_get_71 : decode cX5_get 71 = .ok (.invokestatic 93, 3) := by decide +kernel
theorem dX5_get_74 : decode cX5_get 74 = .ok (.lreturn, 1) := by decide +kernel
theorem dX5_get_75 : decode cX5_get 75 = .ok (.lconst 0, 1) := by decide +kernel
theorem dX5_get_76 : decode cX5_get 76 = .ok (.lreturn, 1) := by decide +kernel
set_option maxRecDepth 20000 in
theorem ggX5_deep_X5_itemAt : GoodIn wsX5_deep wsX5_itemAt := goodIn_r _ [7, 8, 43, 44, 45, 46, 47, 48, 49, 50, 51] (by decide +kernel) (by decide +kernel)
set_option maxRecDepth 20000 in
theorem gX5_deep_X5_itemAt : GoodIn wsX5_deep (wsV RX5 58 RX5 yX5_itemAt wsX5_itemAt) := goodIn_app (goodIn_of _ (by decide +kernel)) ggX5_deep_X5_itemAt
set_option maxRecDepth 20000 in
theorem ggX5_deep_X5_refusalAt : GoodIn wsX5_deep wsX5_refusalAt := goodIn_r _ [11, 12, 13, 14, 15, 16, 17, 18, 19, 20, 21, 22, 52, 53, 54, 55, 56, 57, 58, 59, 60, 61] (by decide +kernel) (by decide +kernel)
set_option maxRecDepth 20000 in
theorem gX5_deep_X5_refusalAt : GoodIn wsX5_deep (va_wsS RX5 70 yX5_refusalAt wsX5_refusalAt) := goodIn_app (goodIn_of _ (by decide +kernel)) ggX5_deep_X5_refusalAt
set_option maxRecDepth 20000 in
theorem ggX5_deep_X2_objectAt : GoodIn wsX5_deep wsX2_objectAt := goodIn_r _ [27, 28, 57, 58, 59] (by decide +kernel) (by decide +kernel)
set_option maxRecDepth 20000 in
theorem gX5_deep_X2_objectAt : GoodIn wsX5_deep (wsV RX5 90 RX2 yX2_objectAt wsX2_objectAt) := goodIn_app (goodIn_of _ (by decide +kernel)) ggX5_deep_X2_objectAt
set_option maxRecDepth 20000 in
theorem ggX5_deep_X5_innerNumber : GoodIn wsX5_deep wsX5_innerNumber := goodIn_r _ [32, 33, 1, 34, 35, 36, 18, 19, 20, 21, 37, 38, 39, 40, 41, 42, 43, 44, 45, 46, 47, 48, 49, 50, 51, 52, 53, 54, 55, 56, 57, 58, 59] (by decide +kernel) (by decide +kernel)
set_option maxRecDepth 20000 in
theorem gX5_deep_X5_innerNumber : GoodIn wsX5_deep (wsV RX5 97 RX5 yX5_innerNumber wsX5_innerNumber) := goodIn_app (goodIn_of _ (by decide +kernel)) ggX5_deep_X5_innerNumber
theorem dX5_deep_0 : decode cX5_deep 0 = .ok (.aload_n 0, 1) := by decide +kernel
theorem dX5_deep_1 : decode cX5_deep 1 = .ok (.iload_n 1, 1) := by decide +kernel
theorem dX5_deep_2 : decode cX5_deep 2 = .ok (.invokevirtual 58, 3) := by decide +kernel
theorem dX5_deep_5 : decode cX5_deep 5 = .ok (.astore 4, 2) := by decide +kernel
theorem dX5_deep_7 : decode cX5_deep 7 = .ok (.aload_n 0, 1) := by decide +kernel
theorem dX5_deep_8 : decode cX5_deep 8 = .ok (.aload 4, 2) := by decide +kernel
theorem dX5_deep_10 : decode cX5_deep 10 = .ok (.iload_n 2, 1) := by decide +kernel
theorem dX5_deep_11 : decode cX5_deep 11 = .ok (.iconst 4, 1) := by decide +kernel
theorem dX5_deep_12 : decode cX5_deep 12 = .ok (.iconst 4, 1) := by decide +kernel
theorem dX5_deep_13 : decode cX5_deep 13 = .ok (.invokestatic 70, 3) := by decide +kernel
theorem dX5_deep_16 : decode cX5_deep 16 = .ok (.putfield 27, 3) := by decide +kernel
theorem dX5_deep_19 : decode cX5_deep 19 = .ok (.aload_n 0, 1) := by decide +kernel
theorem dX5_deep_20 : decode cX5_deep 20 = .ok (.getfield 27, 3) := by decide +kernel
theorem dX5_deep_23 : decode cX5_deep 23 = .ok (.ifCond .ne 30, 3) := by decide +kernel
theorem dX5_deep_26 : decode cX5_deep 26 = .ok (.aload 4, 2) := by decide +kernel
theorem dX5_deep_28 : decode cX5_deep 28 = .ok (.instanceof 51, 3) := by decide +kernel
theorem dX5_deep_31 : decode cX5_deep 31 = .ok (.ifCond .eq 22, 3) := by decide +kernel
theorem dX5_deep_34 : decode cX5_deep 34 = .ok (.aload 4, 2) := by decide +kernel
theorem dX5_deep_36 : decode cX5_deep 36 = .ok (.checkcast 51, 3) := by decide +kernel
theorem dX5_deep_39 : decode cX5_deep 39 = .ok (.astore 5, 2) := by decide +kernel
theorem dX5_deep_41 : decode cX5_deep 41 = .ok (.aload_n 0, 1) := by decide +kernel
theorem dX5_deep_42 : decode cX5_deep 42 = .ok (.aload 5, 2) := by decide +kernel
theorem dX5_deep_44 : decode cX5_deep 44 = .ok (.iload_n 2, 1) := by decide +kernel
theorem dX5_deep_45 : decode cX5_deep 45 = .ok (.invokevirtual 90, 3) := by decide +kernel
theorem dX5_deep_48 : decode cX5_deep 48 = .ok (.iload_n 3, 1) := by decide +kernel
theorem dX5_deep_49 : decode cX5_deep 49 = .ok (.invokevirtual 97, 3) := by decide +kernel
theorem dX5_deep_52 : decode cX5_deep 52 = .ok (.lreturn, 1) := by decide +kernel
theorem dX5_deep_53 : decode cX5_deep 53 = .ok (.lconst 0, 1) := by decide +kernel
theorem dX5_deep_54 : decode cX5_deep 54 = .ok (.lreturn, 1) := by decide +kernel
theorem dX5_why_0 : decode cX5_why 0 = .ok (.aload_n 0, 1) := by decide +kernel
theorem dX5_why_1 : decode cX5_why 1 = .ok (.getfield 27, 3) := by decide +kernel
theorem dX5_why_4 : decode cX5_why 4 = .ok (.ireturn, 1) := by decide +kernel
set_option maxRecDepth 20000 in
theorem ggX5_lift_X5_itemAt : GoodIn wsX5_lift wsX5_itemAt := goodIn_r _ [6, 7, 36, 37, 38, 39, 40, 41, 42, 43, 44] (by decide +kernel) (by decide +kernel)
set_option maxRecDepth 20000 in
theorem gX5_lift_X5_itemAt : GoodIn wsX5_lift (wsV RX5 58 RX5 yX5_itemAt wsX5_itemAt) := goodIn_app (goodIn_of _ (by decide +kernel)) ggX5_lift_X5_itemAt
set_option maxRecDepth 20000 in
theorem ggX5_lift_X5_refusalAt : GoodIn wsX5_lift wsX5_refusalAt := goodIn_r _ [10, 11, 12, 13, 14, 15, 16, 17, 18, 19, 20, 21, 45, 46, 47, 48, 49, 50, 51, 52, 53, 54] (by decide +kernel) (by decide +kernel)
set_option maxRecDepth 20000 in
theorem gX5_lift_X5_refusalAt : GoodIn wsX5_lift (va_wsS RX5 70 yX5_refusalAt wsX5_refusalAt) := goodIn_app (goodIn_of _ (by decide +kernel)) ggX5_lift_X5_refusalAt
set_option maxRecDepth 20000 in
theorem ggX5_lift_X2_objectAt : GoodIn wsX5_lift wsX2_objectAt := goodIn_r _ [26, 27, 50, 51, 52] (by decide +kernel) (by decide +kernel)
set_option maxRecDepth 20000 in
theorem gX5_lift_X2_objectAt : GoodIn wsX5_lift (wsV RX5 90 RX2 yX2_objectAt wsX2_objectAt) := goodIn_app (goodIn_of _ (by decide +kernel)) ggX5_lift_X2_objectAt
set_option maxRecDepth 20000 in
theorem ggX5_lift_X5_standLifted : GoodIn wsX5_lift wsX5_standLifted := goodIn_r _ [31, 7, 32, 33, 34, 5, 35, 36, 37, 38, 39, 40, 41, 42, 43, 44] (by decide +kernel) (by decide +kernel)
set_option maxRecDepth 20000 in
theorem gX5_lift_X5_standLifted : GoodIn wsX5_lift (wsV RX5 101 RX5 yX5_standLifted wsX5_standLifted) := goodIn_app (goodIn_of _ (by decide +kernel)) ggX5_lift_X5_standLifted
theorem dX5_lift_0 : decode cX5_lift 0 = .ok (.aload_n 0, 1) := by decide +kernel
theorem dX5_lift_1 : decode cX5_lift 1 = .ok (.iload_n 1, 1) := by decide +kernel
theorem dX5_lift_2 : decode cX5_lift 2 = .ok (.invokevirtual 58, 3) := by decide +kernel
theorem dX5_lift_5 : decode cX5_lift 5 = .ok (.astore_n 3, 1) := by decide +kernel
theorem dX5_lift_6 : decode cX5_lift 6 = .ok (.aload_n 3, 1) := by decide +kernel
theorem dX5_lift_7 : decode cX5_lift 7 = .ok (.iload_n 2, 1) := by decide +kernel
theorem dX5_lift_8 : decode cX5_lift 8 = .ok (.iconst 4, 1) := by decide +kernel
theorem dX5_lift_9 : decode cX5_lift 9 = .ok (.bipush 6, 2) := by decide +kernel
theorem dX5_lift_11 : decode cX5_lift 11 = .ok (.invokestatic 70, 3) := by decide +kernel
theorem dX5_lift_14 : decode cX5_lift 14 = .ok (.istore 4, 2) := by decide +kernel
theorem dX5_lift_16 : decode cX5_lift 16 = .ok (.iload 4, 2) := by decide +kernel
theorem dX5_lift_18 : decode cX5_lift 18 = .ok (.ifCond .ne 27, 3) := by decide +kernel
theorem dX5_lift_21 : decode cX5_lift 21 = .ok (.aload_n 3, 1) := by decide +kernel
theorem dX5_lift_22 : decode cX5_lift 22 = .ok (.instanceof 51, 3) := by decide +kernel
theorem dX5_lift_25 : decode cX5_lift 25 = .ok (.ifCond .eq 20, 3) := by decide +kernel
theorem dX5_lift_28 : decode cX5_lift 28 = .ok (.aload_n 3, 1) := by decide +kernel
theorem dX5_lift_29 : decode cX5_lift 29 = .ok (.checkcast 51, 3) := by decide +kernel
theorem dX5_lift_32 : decode cX5_lift 32 = .ok (.astore 5, 2) := by decide +kernel
theorem dX5_lift_34 : decode cX5_lift 34 = .ok (.aload_n 0, 1) := by decide +kernel
theorem dX5_lift_35 : decode cX5_lift 35 = .ok (.aload 5, 2) := by decide +kernel
theorem dX5_lift_37 : decode cX5_lift 37 = .ok (.iload_n 2, 1) := by decide +kernel
theorem dX5_lift_38 : decode cX5_lift 38 = .ok (.invokevirtual 90, 3) := by decide +kernel
theorem dX5_lift_41 : decode cX5_lift 41 = .ok (.invokevirtual 101, 3) := by decide +kernel
theorem dX5_lift_44 : decode cX5_lift 44 = .ok (.ireturn, 1) := by decide +kernel
theorem dX5_lift_45 : decode cX5_lift 45 = .ok (.iload 4, 2) := by decide +kernel
theorem dX5_lift_47 : decode cX5_lift 47 = .ok (.ineg, 1) := by decide +kernel
theorem dX5_lift_48 : decode cX5_lift 48 = .ok (.ireturn, 1) := by decide +kernel
set_option maxRecDepth 20000 in
theorem ggX5_move_X5_doMove : GoodIn wsX5_move wsX5_doMove := goodIn_r _ [5, 6, 7, 8, 9, 10, 11, 12, 13, 4, 14, 15, 16, 17, 18, 19, 20, 21, 22, 23, 24, 25, 26, 27, 28, 29, 30, 31, 32, 33, 34, 35, 36, 37, 38, 39, 40, 41, 42, 43, 44, 45, 46, 47, 48, 49, 50, 51, 52, 53, 54, 55, 56, 57, 58, 59, 60, 61, 62, 63, 64, 65, 66, 67, 68, 69, 70, 71, 72, 73, 74, 75, 76, 77, 78] (by decide +kernel) (by decide +kernel)
set_option maxRecDepth 20000 in
theorem gX5_move_X5_doMove : GoodIn wsX5_move (wsV RX5 105 RX5 yX5_doMove wsX5_doMove) := goodIn_app (goodIn_of _ (by decide +kernel)) ggX5_move_X5_doMove
theorem dX5_move_0 : decode cX5_move 0 = .ok (.aload_n 0, 1) := by decide +kernel
theorem dX5_move_1 : decode cX5_move 1 = .ok (.iload_n 1, 1) := by decide +kernel
theorem dX5_move_2 : decode cX5_move 2 = .ok (.iload_n 2, 1) := by decide +kernel
theorem dX5_move_3 : decode cX5_move 3 = .ok (.iload_n 3, 1) := by decide +kernel
theorem dX5_move_4 : decode cX5_move 4 = .ok (.iload 4, 2) := by decide +kernel
theorem dX5_move_6 : decode cX5_move 6 = .ok (.iload 5, 2) := by decide +kernel
theorem dX5_move_8 : decode cX5_move 8 = .ok (.invokevirtual 105, 3) := by decide +kernel
theorem dX5_move_11 : decode cX5_move 11 = .ok (.ireturn, 1) := by decide +kernel
theorem dX5_moved_0 : decode cX5_moved 0 = .ok (.aload_n 0, 1) := by decide +kernel
theorem dX5_moved_1 : decode cX5_moved 1 = .ok (.getfield 30, 3) := by decide +kernel
theorem dX5_moved_4 : decode cX5_moved 4 = .ok (.ireturn, 1) := by decide +kernel
theorem dX5_plan_0 : decode cX5_plan 0 = .ok (.aload_n 0, 1) := by decide +kernel
theorem dX5_plan_1 : decode cX5_plan 1 = .ok (.getfield 19, 3) := by decide +kernel
theorem dX5_plan_4 : decode cX5_plan 4 = .ok (.bipush 64, 2) := by decide +kernel
theorem dX5_plan_6 : decode cX5_plan 6 = .ok (.if_icmp .lt 5, 3) := by decide +kernel
theorem dX5_plan_9 : decode cX5_plan 9 = .ok (.iconst (-1), 1) := by decide +kernel
theorem dX5_plan_10 : decode cX5_plan 10 = .ok (.ireturn, 1) := by decide +kernel
theorem dX5_plan_11 : decode cX5_plan 11 = .ok (.aload_n 0, 1) := by decide +kernel
theorem dX5_plan_12 : decode cX5_plan 12 = .ok (.getfield 19, 3) := by decide +kernel
theorem dX5_plan_15 : decode cX5_plan 15 = .ok (.iconst 5, 1) := by decide +kernel
theorem dX5_plan_16 : decode cX5_plan 16 = .ok (.imul, 1) := by decide +kernel
theorem dX5_plan_17 : decode cX5_plan 17 = .ok (.istore 6, 2) := by decide +kernel
theorem dX5_plan_19 : decode cX5_plan 19 = .ok (.aload_n 0, 1) := by decide +kernel
theorem dX5_plan_20 : decode cX5_plan 20 = .ok (.getfield 15, 3) := by decide +kernel
theorem dX5_plan_23 : decode cX5_plan 23 = .ok (.iload 6, 2) := by decide +kernel
theorem dX5_plan_25 : decode cX5_plan 25 = .ok (.iload_n 1, 1) := by decide +kernel
theorem dX5_plan_26 : decode cX5_plan 26 = .ok (.iastore, 1) := by decide +kernel
theorem dX5_plan_27 : decode cX5_plan 27 = .ok (.aload_n 0, 1) := by decide +kernel
theorem dX5_plan_28 : decode cX5_plan 28 = .ok (.getfield 15, 3) := by decide +kernel
theorem dX5_plan_31 : decode cX5_plan 31 = .ok (.iload 6, 2) := by decide +kernel
theorem dX5_plan_33 : decode cX5_plan 33 = .ok (.iconst 1, 1) := by decide +kernel
theorem dX5_plan_34 : decode cX5_plan 34 = .ok (.iadd, 1) := by decide +kernel
theorem dX5_plan_35 : decode cX5_plan 35 = .ok (.iload_n 2, 1) := by decide +kernel
theorem dX5_plan_36 : decode cX5_plan 36 = .ok (.iastore, 1) := by decide +kernel
theorem dX5_plan_37 : decode cX5_plan 37 = .ok (.aload_n 0, 1) := by decide +kernel
theorem dX5_plan_38 : decode cX5_plan 38 = .ok (.getfield 15, 3) := by decide +kernel
theorem dX5_plan_41 : decode cX5_plan 41 = .ok (.iload 6, 2) := by decide +kernel
theorem dX5_plan_43 : decode cX5_plan 43 = .ok (.iconst 2, 1) := by decide +kernel
theorem dX5_plan_44 : decode cX5_plan 44 = .ok (.iadd, 1) := by decide +kernel
theorem dX5_plan_45 : decode cX5_plan 45 = .ok (.iload_n 3, 1) := by decide +kernel
theorem dX5_plan_46 : decode cX5_plan 46 = .ok (.iastore, 1) := by decide +kernel
theorem dX5_plan_47 : decode cX5_plan 47 = .ok (.aload_n 0, 1) := by decide +kernel
theorem dX5_plan_48 : decode cX5_plan 48 = .ok (.getfield 15, 3) := by decide +kernel
theorem dX5_plan_51 : decode cX5_plan 51 = .ok (.iload 6, 2) := by decide +kernel
theorem dX5_plan_53 : decode cX5_plan 53 = .ok (.iconst 3, 1) := by decide +kernel
theorem dX5_plan_54 : decode cX5_plan 54 = .ok (.iadd, 1) := by decide +kernel
theorem dX5_plan_55 : decode cX5_plan 55 = .ok (.iload 4, 2) := by decide +kernel
theorem dX5_plan_57 : decode cX5_plan 57 = .ok (.iastore, 1) := by decide +kernel
theorem dX5_plan_58 : decode cX5_plan 58 = .ok (.aload_n 0, 1) := by decide +kernel
theorem dX5_plan_59 : decode cX5_plan 59 = .ok (.getfield 15, 3) := by decide +kernel
theorem dX5_plan_62 : decode cX5_plan 62 = .ok (.iload 6, 2) := by decide +kernel
theorem dX5_plan_64 : decode cX5_plan 64 = .ok (.iconst 4, 1) := by decide +kernel
theorem dX5_plan_65 : decode cX5_plan 65 = .ok (.iadd, 1) := by decide +kernel
theorem dX5_plan_66 : decode cX5_plan 66 = .ok (.iload 5, 2) := by decide +kernel
theorem dX5_plan_68 : decode cX5_plan 68 = .ok (.iastore, 1) := by decide +kernel
theorem dX5_plan_69 : decode cX5_plan 69 = .ok (.aload_n 0, 1) := by decide +kernel
theorem dX5_plan_70 : decode cX5_plan 70 = .ok (.dup, 1) := by decide +kernel
theorem dX5_plan_71 : decode cX5_plan 71 = .ok (.getfield 19, 3) := by decide +kernel
theorem dX5_plan_74 : decode cX5_plan 74 = .ok (.iconst 1, 1) := by decide +kernel
theorem dX5_plan_75 : decode cX5_plan 75 = .ok (.iadd, 1) := by decide +kernel
theorem dX5_plan_76 : decode cX5_plan 76 = .ok (.putfield 19, 3) := by decide +kernel
theorem dX5_plan_79 : decode cX5_plan 79 = .ok (.aload_n 0, 1) := by decide +kernel
theorem dX5_plan_80 : decode cX5_plan 80 = .ok (.getfield 19, 3) := by decide +kernel
theorem dX5_plan_83 : decode cX5_plan 83 = .ok (.ireturn, 1) := by decide +kernel
set_option maxRecDepth 20000 in
theorem ggX5_run_X5_doPlanned : GoodIn wsX5_run wsX5_doPlanned := goodIn_r _ [6, 7, 8, 9, 10, 5, 11, 12, 13, 14, 15, 16, 17, 18, 19, 20, 21, 22, 23, 24, 25, 26, 27, 28, 29, 30, 31, 32, 33, 34, 35, 36, 37, 38, 39, 40, 41, 42, 43, 44, 45, 46, 47, 48, 49, 50, 51, 52, 53, 54, 55, 56, 57, 58, 59, 60, 61, 62, 63, 64, 65, 66, 67, 68, 69, 70, 71, 72, 73, 74, 75, 76, 77, 78, 79, 80, 81, 82, 83, 84] (by decide +kernel) (by decide +kernel)
set_option maxRecDepth 20000 in
theorem gX5_run_X5_doPlanned : GoodIn wsX5_run (wsV RX5 109 RX5 yX5_doPlanned wsX5_doPlanned) := goodIn_app (goodIn_of _ (by decide +kernel)) ggX5_run_X5_doPlanned
theorem dX5_run_0 : decode cX5_run 0 = .ok (.iconst 0, 1) := by decide +kernel
theorem dX5_run_1 : decode cX5_run 1 = .ok (.istore_n 1, 1) := by decide +kernel
theorem dX5_run_2 : decode cX5_run 2 = .ok (.iload_n 1, 1) := by decide +kernel
theorem dX5_run_3 : decode cX5_run 3 = .ok (.aload_n 0, 1) := by decide +kernel
theorem dX5_run_4 : decode cX5_run 4 = .ok (.getfield 19, 3) := by decide +kernel
theorem dX5_run_7 : decode cX5_run 7 = .ok (.if_icmp .ge 17, 3) := by decide +kernel
theorem dX5_run_10 : decode cX5_run 10 = .ok (.aload_n 0, 1) := by decide +kernel
theorem dX5_run_11 : decode cX5_run 11 = .ok (.iload_n 1, 1) := by decide +kernel
theorem dX5_run_12 : decode cX5_run 12 = .ok (.invokevirtual 109, 3) := by decide +kernel
theorem dX5_run_15 : decode cX5_run 15 = .ok (.ifCond .ne 9, 3) := by decide +kernel
theorem dX5_run_18 : decode cX5_run 18 = .ok (.iinc 1 1, 3) := by decide +kernel
theorem dX5_run_21 : decode cX5_run 21 = .ok (.goto (-19), 3) := by decide +kernel
theorem dX5_run_24 : decode cX5_run 24 = .ok (.aload_n 0, 1) := by decide +kernel
theorem dX5_run_25 : decode cX5_run 25 = .ok (.iconst 0, 1) := by decide +kernel
theorem dX5_run_26 : decode cX5_run 26 = .ok (.putfield 19, 3) := by decide +kernel
theorem dX5_run_29 : decode cX5_run 29 = .ok (.iload_n 1, 1) := by decide +kernel
theorem dX5_run_30 : decode cX5_run 30 = .ok (.ireturn, 1) := by decide +kernel
theorem dX5_ended_0 : decode cX5_ended 0 = .ok (.aload_n 0, 1) := by decide +kernel
theorem dX5_ended_1 : decode cX5_ended 1 = .ok (.getfield 33, 3) := by decide +kernel
theorem dX5_ended_4 : decode cX5_ended 4 = .ok (.ireturn, 1) := by decide +kernel
set_option maxRecDepth 20000 in
theorem ggX5_clear_X5_itemAt : GoodIn wsX5_clear wsX5_itemAt := goodIn_r _ [6, 1, 7, 8, 9, 10, 11, 12, 13, 14, 15] (by decide +kernel) (by decide +kernel)
set_option maxRecDepth 20000 in
theorem gX5_clear_X5_itemAt : GoodIn wsX5_clear (wsV RX5 58 RX5 yX5_itemAt wsX5_itemAt) := goodIn_app (goodIn_of _ (by decide +kernel)) ggX5_clear_X5_itemAt
theorem dX5_clear_0 : decode cX5_clear 0 = .ok (.aload_n 0, 1) := by decide +kernel
theorem dX5_clear_1 : decode cX5_clear 1 = .ok (.iload_n 1, 1) := by decide +kernel
theorem dX5_clear_2 : decode cX5_clear 2 = .ok (.invokevirtual 58, 3) := by decide +kernel
theorem dX5_clear_5 : decode cX5_clear 5 = .ok (.ifnonnull 5, 3) := by decide +kernel
theorem dX5_clear_8 : decode cX5_clear 8 = .ok (.iconst 0, 1) := by decide +kernel
theorem dX5_clear_9 : decode cX5_clear 9 = .ok (.ireturn, 1) := by decide +kernel
theorem dX5_clear_10 : decode cX5_clear 10 = .ok (.aload_n 0, 1) := by decide +kernel
theorem dX5_clear_11 : decode cX5_clear 11 = .ok (.getfield 11, 3) := by decide +kernel
theorem dX5_clear_14 : decode cX5_clear 14 = .ok (.iload_n 1, 1) := by decide +kernel
theorem dX5_clear_15 : decode cX5_clear 15 = .ok (.aconst_null, 1) := by decide +kernel
theorem dX5_clear_16 : decode cX5_clear 16 = .ok (.aastore, 1) := by decide +kernel
theorem dX5_clear_17 : decode cX5_clear 17 = .ok (.iconst 1, 1) := by decide +kernel
theorem dX5_clear_18 : decode cX5_clear 18 = .ok (.ireturn, 1) := by decide +kernel
set_option maxRecDepth 20000 in
theorem ggX5_same_X5_itemAt : GoodIn wsX5_same wsX5_itemAt := goodIn_r _ [5, 6, 7, 8, 9, 10, 11, 12, 13, 14, 15] (by decide +kernel) (by decide +kernel)
set_option maxRecDepth 20000 in
theorem gX5_same_X5_itemAt : GoodIn wsX5_same (wsV RX5 58 RX5 yX5_itemAt wsX5_itemAt) := goodIn_app (goodIn_of _ (by decide +kernel)) ggX5_same_X5_itemAt
theorem dX5_same_0 : decode cX5_same 0 = .ok (.aload_n 0, 1) := by decide +kernel
theorem dX5_same_1 : decode cX5_same 1 = .ok (.iload_n 1, 1) := by decide +kernel
theorem dX5_same_2 : decode cX5_same 2 = .ok (.invokevirtual 58, 3) := by decide +kernel
theorem dX5_same_5 : decode cX5_same 5 = .ok (.astore_n 3, 1) := by decide +kernel
theorem dX5_same_6 : decode cX5_same 6 = .ok (.aload_n 0, 1) := by decide +kernel
theorem dX5_same_7 : decode cX5_same 7 = .ok (.iload_n 2, 1) := by decide +kernel
theorem dX5_same_8 : decode cX5_same 8 = .ok (.invokevirtual 58, 3) := by decide +kernel
theorem dX5_same_11 : decode cX5_same 11 = .ok (.astore 4, 2) := by decide +kernel
theorem dX5_same_13 : decode cX5_same 13 = .ok (.aload_n 3, 1) := by decide +kernel
theorem dX5_same_14 : decode cX5_same 14 = .ok (.ifnull 8, 3) := by decide +kernel
theorem dX5_same_17 : decode cX5_same 17 = .ok (.aload 4, 2) := by decide +kernel
theorem dX5_same_19 : decode cX5_same 19 = .ok (.ifnonnull 5, 3) := by decide +kernel
theorem dX5_same_22 : decode cX5_same 22 = .ok (.iconst (-1), 1) := by decide +kernel
theorem dX5_same_23 : decode cX5_same 23 = .ok (.ireturn, 1) := by decide +kernel
theorem dX5_same_24 : decode cX5_same 24 = .ok (.aload_n 3, 1) := by decide +kernel
theorem dX5_same_25 : decode cX5_same 25 = .ok (.aload 4, 2) := by decide +kernel
theorem dX5_same_27 : decode cX5_same 27 = .ok (.if_acmp .ne 7, 3) := by decide +kernel
theorem dX5_same_30 : decode cX5_same 30 = .ok (.iconst 1, 1) := by decide +kernel
theorem dX5_same_31 : decode cX5_same 31 = .ok (.goto 4, 3) := by decide +kernel
theorem dX5_same_34 : decode cX5_same 34 = .ok (.iconst 0, 1) := by decide +kernel
theorem dX5_same_35 : decode cX5_same 35 = .ok (.ireturn, 1) := by decide +kernel
set_option maxRecDepth 20000 in
theorem ggX5_digest_X5_itemAt : GoodIn wsX5_digest wsX5_itemAt := goodIn_r _ [12, 13, 56, 57, 58, 59, 60, 61, 62, 63, 64] (by decide +kernel) (by decide +kernel)
set_option maxRecDepth 20000 in
theorem gX5_digest_X5_itemAt : GoodIn wsX5_digest (wsV RX5 58 RX5 yX5_itemAt wsX5_itemAt) := goodIn_app (goodIn_of _ (by decide +kernel)) ggX5_digest_X5_itemAt
set_option maxRecDepth 20000 in
theorem ggX5_digest_X1_digestOfNumbers : GoodIn wsX5_digest wsX1_digestOfNumbers := goodIn_r _ [18, 19, 20, 21, 22, 23, 24, 46, 47, 48, 49, 50, 51, 52, 53, 54, 55] (by decide +kernel) (by decide +kernel)
set_option maxRecDepth 20000 in
theorem gX5_digest_X1_digestOfNumbers : GoodIn wsX5_digest (wsV RX5 113 RX1 yX1_digestOfNumbers wsX1_digestOfNumbers) := goodIn_app (goodIn_of _ (by decide +kernel)) ggX5_digest_X1_digestOfNumbers
set_option maxRecDepth 20000 in
theorem ggX5_digest_X2_digestOfObjects : GoodIn wsX5_digest wsX2_digestOfObjects := goodIn_r _ [29, 30, 31, 32, 33, 34, 35, 28, 36, 37, 38, 15, 16, 17, 18, 19, 20, 21, 22, 23, 24, 39, 11, 40, 3, 5, 6, 41, 7, 42, 43, 44, 45, 46, 47, 48, 49, 50, 51, 52, 53, 54, 55] (by decide +kernel) (by decide +kernel)
set_option maxRecDepth 20000 in
theorem gX5_digest_X2_digestOfObjects : GoodIn wsX5_digest (wsV RX5 117 RX2 yX2_digestOfObjects wsX2_digestOfObjects) := goodIn_app (goodIn_of _ (by decide +kernel)) ggX5_digest_X2_digestOfObjects
theorem dX5_digest_0 : decode cX5_digest 0 = .ok (.aload_n 0, 1) := by decide +kernel
theorem dX5_digest_1 : decode cX5_digest 1 = .ok (.iload_n 1, 1) := by decide +kernel
theorem dX5_digest_2 : decode cX5_digest 2 = .ok (.invokevirtual 58, 3) := by decide +kernel
theorem dX5_digest_5 : decode cX5_digest 5 = .ok (.astore_n 2, 1) := by decide +kernel
theorem dX5_digest_6 : decode cX5_digest 6 = .ok (.aload_n 2, 1) := by decide +kernel
theorem dX5_digest_7 : decode cX5_digest 7 = .ok (.instanceof 46, 3) := by decide +kernel
theorem dX5_digest_10 : decode cX5_digest 10 = .ok (.ifCond .eq 13, 3) := by decide +kernel
theorem dX5_digest_13 : decode cX5_digest 13 = .ok (.aload_n 2, 1) := by decide +kernel
theorem dX5_digest_14 : decode cX5_digest 14 = .ok (.checkcast 46, 3) := by decide +kernel
theorem dX5_digest_17 : decode cX5_digest 17 = .ok (.astore_n 3, 1) := by decide +kernel
theorem dX5_digest_18 : decode cX5_digest 18 = .ok (.aload_n 3, 1) := by decide +kernel
theorem dX5_digest_19 : decode cX5_digest 19 = .ok (.invokevirtual 113, 3) := by decide +kernel
theorem dX5_digest_22 : decode cX5_digest 22 = .ok (.lreturn, 1) := by decide +kernel
theorem dX5_digest_23 : decode cX5_digest 23 = .ok (.aload_n 2, 1) := by decide +kernel
theorem dX5_digest_24 : decode cX5_digest 24 = .ok (.instanceof 51, 3) := by decide +kernel
theorem dX5_digest_27 : decode cX5_digest 27 = .ok (.ifCond .eq 13, 3) := by decide +kernel
theorem dX5_digest_30 : decode cX5_digest 30 = .ok (.aload_n 2, 1) := by decide +kernel
theorem dX5_digest_31 : decode cX5_digest 31 = .ok (.checkcast 51, 3) := by decide +kernel
theorem dX5_digest_34 : decode cX5_digest 34 = .ok (.astore_n 3, 1) := by decide +kernel
theorem dX5_digest_35 : decode cX5_digest 35 = .ok (.aload_n 3, 1) := by decide +kernel
theorem dX5_digest_36 : decode cX5_digest 36 = .ok (.invokevirtual 117, 3) := by decide +kernel
theorem dX5_digest_39 : decode cX5_digest 39 = .ok (.lreturn, 1) := by decide +kernel
theorem dX5_digest_40 : decode cX5_digest 40 = .ok (.aload_n 2, 1) := by decide +kernel
theorem dX5_digest_41 : decode cX5_digest 41 = .ok (.instanceof 120, 3) := by decide +kernel
theorem dX5_digest_44 : decode cX5_digest 44 = .ok (.ifCond .eq 26, 3) := by decide +kernel
theorem dX5_digest_47 : decode cX5_digest 47 = .ok (.aload_n 2, 1) := by decide +kernel
theorem dX5_digest_48 : decode cX5_digest 48 = .ok (.checkcast 120, 3) := by decide +kernel
theorem dX5_digest_51 : decode cX5_digest 51 = .ok (.astore_n 3, 1) := by decide +kernel
theorem dX5_digest_52 : decode cX5_digest 52 = .ok (.ldc2_w 122, 3) := by decide +kernel
theorem dX5_digest_55 : decode cX5_digest 55 = .ok (.aload_n 3, 1) := by decide +kernel
theorem dX5_digest_56 : decode cX5_digest 56 = .ok (.getfield 124, 3) := by decide +kernel
theorem dX5_digest_59 : decode cX5_digest 59 = .ok (.iconst 1, 1) := by decide +kernel
theorem dX5_digest_60 : decode cX5_digest 60 = .ok (.iadd, 1) := by decide +kernel
theorem dX5_digest_61 : decode cX5_digest 61 = .ok (.i2l, 1) := by decide +kernel
theorem dX5_digest_62 : decode cX5_digest 62 = .ok (.lmul, 1) := by decide +kernel
theorem dX5_digest_63 : decode cX5_digest 63 = .ok (.aload_n 3, 1) := by decide +kernel
theorem dX5_digest_64 : decode cX5_digest 64 = .ok (.getfield 125, 3) := by decide +kernel
theorem dX5_digest_67 : decode cX5_digest 67 = .ok (.i2l, 1) := by decide +kernel
theorem dX5_digest_68 : decode cX5_digest 68 = .ok (.ladd, 1) := by decide +kernel
theorem dX5_digest_69 : decode cX5_digest 69 = .ok (.lreturn, 1) := by decide +kernel
theorem dX5_digest_70 : decode cX5_digest 70 = .ok (.lconst 0, 1) := by decide +kernel
theorem dX5_digest_71 : decode cX5_digest 71 = .ok (.lreturn, 1) := by decide +kernel
set_option maxRecDepth 20000 in
theorem ggX5_count_X5_takenPlaces : GoodIn wsX5_count wsX5_takenPlaces := goodIn_r _ [9, 10, 11, 12, 13, 14, 15, 16, 17, 18, 19] (by decide +kernel) (by decide +kernel)
set_option maxRecDepth 20000 in
theorem gX5_count_X5_takenPlaces : GoodIn wsX5_count (wsV RX5 128 RX5 yX5_takenPlaces wsX5_takenPlaces) := goodIn_app (goodIn_of _ (by decide +kernel)) ggX5_count_X5_takenPlaces
theorem dX5_count_0 : decode cX5_count 0 = .ok (.iload_n 1, 1) := by decide +kernel
theorem dX5_count_1 : decode cX5_count 1 = .ok (.tableswitch 60 0 4 #[35, 40, 45, 50, 55], 35) := by decide +kernel
theorem dX5_count_36 : decode cX5_count 36 = .ok (.aload_n 0, 1) := by decide +kernel
theorem dX5_count_37 : decode cX5_count 37 = .ok (.invokevirtual 128, 3) := by decide +kernel
theorem dX5_count_40 : decode cX5_count 40 = .ok (.ireturn, 1) := by decide +kernel
theorem dX5_count_41 : decode cX5_count 41 = .ok (.aload_n 0, 1) := by decide +kernel
theorem dX5_count_42 : decode cX5_count 42 = .ok (.getfield 24, 3) := by decide +kernel
theorem dX5_count_45 : decode cX5_count 45 = .ok (.ireturn, 1) := by decide +kernel
theorem dX5_count_46 : decode cX5_count 46 = .ok (.aload_n 0, 1) := by decide +kernel
theorem dX5_count_47 : decode cX5_count 47 = .ok (.getfield 19, 3) := by decide +kernel
theorem dX5_count_50 : decode cX5_count 50 = .ok (.ireturn, 1) := by decide +kernel
theorem dX5_count_51 : decode cX5_count 51 = .ok (.aload_n 0, 1) := by decide +kernel
theorem dX5_count_52 : decode cX5_count 52 = .ok (.getfield 36, 3) := by decide +kernel
theorem dX5_count_55 : decode cX5_count 55 = .ok (.ireturn, 1) := by decide +kernel
theorem dX5_count_56 : decode cX5_count 56 = .ok (.aload_n 0, 1) := by decide +kernel
theorem dX5_count_57 : decode cX5_count 57 = .ok (.getfield 39, 3) := by decide +kernel
theorem dX5_count_60 : decode cX5_count 60 = .ok (.ireturn, 1) := by decide +kernel
theorem dX5_count_61 : decode cX5_count 61 = .ok (.iconst (-1), 1) := by decide +kernel
theorem dX5_count_62 : decode cX5_count 62 = .ok (.ireturn, 1) := by decide +kernel
theorem dX5_itemAt_0 : decode cX5_itemAt 0 = .ok (.iload_n 1, 1) := by decide +kernel
theorem dX5_itemAt_1 : decode cX5_itemAt 1 = .ok (.ifCond .lt 19, 3) := by decide +kernel
theorem dX5_itemAt_4 : decode cX5_itemAt 4 = .ok (.iload_n 1, 1) := by decide +kernel
theorem dX5_itemAt_5 : decode cX5_itemAt 5 = .ok (.sipush 400, 3) := by decide +kernel
theorem dX5_itemAt_8 : decode cX5_itemAt 8 = .ok (.if_icmp .ge 12, 3) := by decide +kernel
theorem dX5_itemAt_11 : decode cX5_itemAt 11 = .ok (.aload_n 0, 1) := by decide +kernel
theorem dX5_itemAt_12 : decode cX5_itemAt 12 = .ok (.getfield 11, 3) := by decide +kernel
theorem dX5_itemAt_15 : decode cX5_itemAt 15 = .ok (.iload_n 1, 1) := by decide +kernel
theorem dX5_itemAt_16 : decode cX5_itemAt 16 = .ok (.aaload, 1) := by decide +kernel
theorem dX5_itemAt_17 : decode cX5_itemAt 17 = .ok (.goto 4, 3) := by decide +kernel
theorem dX5_itemAt_20 : decode cX5_itemAt 20 = .ok (.aconst_null, 1) := by decide +kernel
theorem dX5_itemAt_21 : decode cX5_itemAt 21 = .ok (.areturn, 1) := by decide +kernel
theorem dX5_lowestEmptyPlace_0 : decode cX5_lowestEmptyPlace 0 = .ok (.iconst 0, 1) := by decide +kernel
theorem dX5_lowestEmptyPlace_1 : decode cX5_lowestEmptyPlace 1 = .ok (.istore_n 1, 1) := by decide +kernel
theorem dX5_lowestEmptyPlace_2 : decode cX5_lowestEmptyPlace 2 = .ok (.iload_n 1, 1) := by decide +kernel
theorem dX5_lowestEmptyPlace_3 : decode cX5_lowestEmptyPlace 3 = .ok (.sipush 400, 3) := by decide +kernel
theorem dX5_lowestEmptyPlace_6 : decode cX5_lowestEmptyPlace 6 = .ok (.if_icmp .ge 20, 3) := by decide +kernel
theorem dX5_lowestEmptyPlace_9 : decode cX5_lowestEmptyPlace 9 = .ok (.aload_n 0, 1) := by decide +kernel
theorem dX5_lowestEmptyPlace_10 : decode cX5_lowestEmptyPlace 10 = .ok (.getfield 11, 3) := by decide +kernel
theorem dX5_lowestEmptyPlace_13 : decode cX5_lowestEmptyPlace 13 = .ok (.iload_n 1, 1) := by decide +kernel
theorem dX5_lowestEmptyPlace_14 : decode cX5_lowestEmptyPlace 14 = .ok (.aaload, 1) := by decide +kernel
theorem dX5_lowestEmptyPlace_15 : decode cX5_lowestEmptyPlace 15 = .ok (.ifnonnull 5, 3) := by decide +kernel
theorem dX5_lowestEmptyPlace_18 : decode cX5_lowestEmptyPlace 18 = .ok (.iload_n 1, 1) := by decide +kernel
theorem dX5_lowestEmptyPlace_19 : decode cX5_lowestEmptyPlace 19 = .ok (.ireturn, 1) := by decide +kernel
theorem dX5_lowestEmptyPlace_20 : decode cX5_lowestEmptyPlace 20 = .ok (.iinc 1 1, 3) := by decide +kernel
theorem dX5_lowestEmptyPlace_23 : decode cX5_lowestEmptyPlace 23 = .ok (.goto (-21), 3) := by decide +kernel
theorem dX5_lowestEmptyPlace_26 : decode cX5_lowestEmptyPlace 26 = .ok (.iconst (-1), 1) := by decide +kernel
theorem dX5_lowestEmptyPlace_27 : decode cX5_lowestEmptyPlace 27 = .ok (.ireturn, 1) := by decide +kernel
theorem dX5_takenPlaces_0 : decode cX5_takenPlaces 0 = .ok (.iconst 0, 1) := by decide +kernel
theorem dX5_takenPlaces_1 : decode cX5_takenPlaces 1 = .ok (.istore_n 1, 1) := by decide +kernel
theorem dX5_takenPlaces_2 : decode cX5_takenPlaces 2 = .ok (.aload_n 0, 1) := by decide +kernel
theorem dX5_takenPlaces_3 : decode cX5_takenPlaces 3 = .ok (.getfield 11, 3) := by decide +kernel
theorem dX5_takenPlaces_6 : decode cX5_takenPlaces 6 = .ok (.astore_n 2, 1) := by decide +kernel
theorem dX5_takenPlaces_7 : decode cX5_takenPlaces 7 = .ok (.aload_n 2, 1) := by decide +kernel
theorem dX5_takenPlaces_8 : decode cX5_takenPlaces 8 = .ok (.arraylength, 1) := by decide +kernel
theorem dX5_takenPlaces_9 : decode cX5_takenPlaces 9 = .ok (.istore_n 3, 1) := by decide +kernel
theorem dX5_takenPlaces_10 : decode cX5_takenPlaces 10 = .ok (.iconst 0, 1) := by decide +kernel
theorem dX5_takenPlaces_11 : decode cX5_takenPlaces 11 = .ok (.istore 4, 2) := by decide +kernel
theorem dX5_takenPlaces_13 : decode cX5_takenPlaces 13 = .ok (.iload 4, 2) := by decide +kernel
theorem dX5_takenPlaces_15 : decode cX5_takenPlaces 15 = .ok (.iload_n 3, 1) := by decide +kernel
theorem dX5_takenPlaces_16 : decode cX5_takenPlaces 16 = .ok (.if_icmp .ge 23, 3) := by decide +kernel
theorem dX5_takenPlaces_19 : decode cX5_takenPlaces 19 = .ok (.aload_n 2, 1) := by decide +kernel
theorem dX5_takenPlaces_20 : decode cX5_takenPlaces 20 = .ok (.iload 4, 2) := by decide +kernel
theorem dX5_takenPlaces_22 : decode cX5_takenPlaces 22 = .ok (.aaload, 1) := by decide +kernel
theorem dX5_takenPlaces_23 : decode cX5_takenPlaces 23 = .ok (.astore 5, 2) := by decide +kernel
theorem dX5_takenPlaces_25 : decode cX5_takenPlaces 25 = .ok (.aload 5, 2) := by decide +kernel
theorem dX5_takenPlaces_27 : decode cX5_takenPlaces 27 = .ok (.ifnull 6, 3) := by decide +kernel
theorem dX5_takenPlaces_30 : decode cX5_takenPlaces 30 = .ok (.iinc 1 1, 3) := by decide +kernel
theorem dX5_takenPlaces_33 : decode cX5_takenPlaces 33 = .ok (.iinc 4 1, 3) := by decide +kernel
theorem dX5_takenPlaces_36 : decode cX5_takenPlaces 36 = .ok (.goto (-23), 3) := by decide +kernel
theorem dX5_takenPlaces_39 : decode cX5_takenPlaces 39 = .ok (.iload_n 1, 1) := by decide +kernel
theorem dX5_takenPlaces_40 : decode cX5_takenPlaces 40 = .ok (.ireturn, 1) := by decide +kernel
set_option maxRecDepth 20000 in
theorem ggX5_newThing_X5_lowestEmptyPlace : GoodIn wsX5_newThing wsX5_lowestEmptyPlace := goodIn_r _ [10, 2, 23, 24, 25, 26, 27, 28, 29, 30, 31] (by decide +kernel) (by decide +kernel)
set_option maxRecDepth 20000 in
theorem gX5_newThing_X5_lowestEmptyPlace : GoodIn wsX5_newThing (wsV RX5 42 RX5 yX5_lowestEmptyPlace wsX5_lowestEmptyPlace) := goodIn_app (goodIn_of _ (by decide +kernel)) ggX5_newThing_X5_lowestEmptyPlace
set_option maxRecDepth 20000 in
theorem ggX5_newThing_X4_init : GoodIn wsX5_newThing wsX4_init := goodIn_r _ [13, 14, 15, 16, 17, 18, 19, 20, 21, 22, 32, 33, 34, 35, 36, 37, 38, 39, 40, 41] (by decide +kernel) (by decide +kernel)
set_option maxRecDepth 20000 in
theorem gX5_newThing_X4_init : GoodIn wsX5_newThing (wsX4_init) := ggX5_newThing_X4_init
theorem dX5_newThing_0 : decode cX5_newThing 0 = .ok (.aload_n 0, 1) := by decide +kernel
theorem dX5_newThing_1 : decode cX5_newThing 1 = .ok (.invokevirtual 42, 3) := by decide +kernel
theorem dX5_newThing_4 : decode cX5_newThing 4 = .ok (.istore_n 3, 1) := by decide +kernel
theorem dX5_newThing_5 : decode cX5_newThing 5 = .ok (.iload_n 3, 1) := by decide +kernel
theorem dX5_newThing_6 : decode cX5_newThing 6 = .ok (.iconst (-1), 1) := by decide +kernel
theorem dX5_newThing_7 : decode cX5_newThing 7 = .ok (.if_icmp .eq 11, 3) := by decide +kernel
theorem dX5_newThing_10 : decode cX5_newThing 10 = .ok (.aload_n 0, 1) := by decide +kernel
theorem dX5_newThing_11 : decode cX5_newThing 11 = .ok (.getfield 24, 3) := by decide +kernel
theorem dX5_newThing_14 : decode cX5_newThing 14 = .ok (.iconst 1, 1) := by decide +kernel
theorem dX5_newThing_15 : decode cX5_newThing 15 = .ok (.if_icmp .ge 6, 3) := by decide +kernel
theorem dX5_newThing_18 : decode cX5_newThing 18 = .ok (.bipush (-2), 2) := by decide +kernel
theorem dX5_newThing_20 : decode cX5_newThing 20 = .ok (.ireturn, 1) := by decide +kernel
theorem dX5_newThing_21 : decode cX5_newThing 21 = .ok (.aload_n 0, 1) := by decide +kernel
theorem dX5_newThing_22 : decode cX5_newThing 22 = .ok (.dup, 1) := by decide +kernel
theorem dX5_newThing_23 : decode cX5_newThing 23 = .ok (.getfield 24, 3) := by decide +kernel
theorem dX5_newThing_26 : decode cX5_newThing 26 = .ok (.iconst 1, 1) := by decide +kernel
theorem dX5_newThing_27 : decode cX5_newThing 27 = .ok (.isub, 1) := by decide +kernel
theorem dX5_newThing_28 : decode cX5_newThing 28 = .ok (.putfield 24, 3) := by decide +kernel
theorem dX5_newThing_31 : decode cX5_newThing 31 = .ok (.aload_n 0, 1) := by decide +kernel
theorem dX5_newThing_32 : decode cX5_newThing 32 = .ok (.getfield 11, 3) := by decide +kernel
theorem dX5_newThing_35 : decode cX5_newThing 35 = .ok (.iload_n 3, 1) := by decide +kernel
theorem dX5_newThing_36 : decode cX5_newThing 36 = .ok (.new 120, 3) := by decide +kernel
theorem dX5_newThing_39 : decode cX5_newThing 39 = .ok (.dup, 1) := by decide +kernel
theorem dX5_newThing_40 : decode cX5_newThing 40 = .ok (.iload_n 1, 1) := by decide +kernel
theorem dX5_newThing_41 : decode cX5_newThing 41 = .ok (.iload_n 2, 1) := by decide +kernel
theorem dX5_newThing_42 : decode cX5_newThing 42 = .ok (.invokespecial 131, 3) := by decide +kernel
theorem dX5_newThing_45 : decode cX5_newThing 45 = .ok (.aastore, 1) := by decide +kernel
theorem dX5_newThing_46 : decode cX5_newThing 46 = .ok (.iload_n 3, 1) := by decide +kernel
theorem dX5_newThing_47 : decode cX5_newThing 47 = .ok (.ireturn, 1) := by decide +kernel
set_option maxRecDepth 20000 in
theorem ggX5_refusalAt_X3_hasElement : GoodIn wsX5_refusalAt wsX3_hasElement := goodIn_r _ [9, 10, 12, 13, 14, 15, 16, 17, 18, 19] (by decide +kernel) (by decide +kernel)
set_option maxRecDepth 20000 in
theorem gX5_refusalAt_X3_hasElement_u133X1 : GoodIn wsX5_refusalAt (va_wsU RX5 133 RX1 "SpanMover$Row" ⟨"SpanMover$Row", "hasElement", "(I)Z"⟩ yX3_hasElement wsX3_hasElement) := goodIn_app (goodIn_of _ (by decide +kernel)) ggX5_refusalAt_X3_hasElement
set_option maxRecDepth 20000 in
theorem gX5_refusalAt_X3_hasElement_u133X2 : GoodIn wsX5_refusalAt (va_wsU RX5 133 RX2 "SpanMover$Row" ⟨"SpanMover$Row", "hasElement", "(I)Z"⟩ yX3_hasElement wsX3_hasElement) := goodIn_app (goodIn_of _ (by decide +kernel)) ggX5_refusalAt_X3_hasElement
theorem dX5_refusalAt_0 : decode cX5_refusalAt 0 = .ok (.aload_n 0, 1) := by decide +kernel
theorem dX5_refusalAt_1 : decode cX5_refusalAt 1 = .ok (.ifnonnull 5, 3) := by decide +kernel
theorem dX5_refusalAt_4 : decode cX5_refusalAt 4 = .ok (.iconst 1, 1) := by decide +kernel
theorem dX5_refusalAt_5 : decode cX5_refusalAt 5 = .ok (.ireturn, 1) := by decide +kernel
theorem dX5_refusalAt_6 : decode cX5_refusalAt 6 = .ok (.aload_n 0, 1) := by decide +kernel
theorem dX5_refusalAt_7 : decode cX5_refusalAt 7 = .ok (.instanceof 65, 3) := by decide +kernel
theorem dX5_refusalAt_10 : decode cX5_refusalAt 10 = .ok (.ifCond .eq 12, 3) := by decide +kernel
theorem dX5_refusalAt_13 : decode cX5_refusalAt 13 = .ok (.aload_n 0, 1) := by decide +kernel
theorem dX5_refusalAt_14 : decode cX5_refusalAt 14 = .ok (.checkcast 65, 3) := by decide +kernel
theorem dX5_refusalAt_17 : decode cX5_refusalAt 17 = .ok (.astore 4, 2) := by decide +kernel
theorem dX5_refusalAt_19 : decode cX5_refusalAt 19 = .ok (.goto 5, 3) := by decide +kernel
theorem dX5_refusalAt_22 : decode cX5_refusalAt 22 = .ok (.iconst 2, 1) := by decide +kernel
theorem dX5_refusalAt_23 : decode cX5_refusalAt 23 = .ok (.ireturn, 1) := by decide +kernel
theorem dX5_refusalAt_24 : decode cX5_refusalAt 24 = .ok (.aload 4, 2) := by decide +kernel
theorem dX5_refusalAt_26 : decode cX5_refusalAt 26 = .ok (.getfield 132, 3) := by decide +kernel
theorem dX5_refusalAt_29 : decode cX5_refusalAt 29 = .ok (.iload_n 2, 1) := by decide +kernel
theorem dX5_refusalAt_30 : decode cX5_refusalAt 30 = .ok (.if_icmp .lt 12, 3) := by decide +kernel
theorem dX5_refusalAt_33 : decode cX5_refusalAt 33 = .ok (.aload 4, 2) := by decide +kernel
theorem dX5_refusalAt_35 : decode cX5_refusalAt 35 = .ok (.getfield 132, 3) := by decide +kernel
theorem dX5_refusalAt_38 : decode cX5_refusalAt 38 = .ok (.iload_n 3, 1) := by decide +kernel
theorem dX5_refusalAt_39 : decode cX5_refusalAt 39 = .ok (.if_icmp .le 5, 3) := by decide +kernel
theorem dX5_refusalAt_42 : decode cX5_refusalAt 42 = .ok (.iconst 3, 1) := by decide +kernel
theorem dX5_refusalAt_43 : decode cX5_refusalAt 43 = .ok (.ireturn, 1) := by decide +kernel
theorem dX5_refusalAt_44 : decode cX5_refusalAt 44 = .ok (.aload 4, 2) := by decide +kernel
theorem dX5_refusalAt_46 : decode cX5_refusalAt 46 = .ok (.iload_n 1, 1) := by decide +kernel
theorem dX5_refusalAt_47 : decode cX5_refusalAt 47 = .ok (.invokevirtual 133, 3) := by decide +kernel
theorem dX5_refusalAt_50 : decode cX5_refusalAt 50 = .ok (.ifCond .eq 7, 3) := by decide +kernel
theorem dX5_refusalAt_53 : decode cX5_refusalAt 53 = .ok (.iconst 0, 1) := by decide +kernel
theorem dX5_refusalAt_54 : decode cX5_refusalAt 54 = .ok (.goto 4, 3) := by decide +kernel
theorem dX5_refusalAt_57 : decode cX5_refusalAt 57 = .ok (.iconst 4, 1) := by decide +kernel
theorem dX5_refusalAt_58 : decode cX5_refusalAt 58 = .ok (.ireturn, 1) := by decide +kernel
theorem dX5_toldAs_0 : decode cX5_toldAs 0 = .ok (.aload_n 0, 1) := by decide +kernel
theorem dX5_toldAs_1 : decode cX5_toldAs 1 = .ok (.instanceof 120, 3) := by decide +kernel
theorem dX5_toldAs_4 : decode cX5_toldAs 4 = .ok (.ifCond .eq 28, 3) := by decide +kernel
theorem dX5_toldAs_7 : decode cX5_toldAs 7 = .ok (.aload_n 0, 1) := by decide +kernel
theorem dX5_toldAs_8 : decode cX5_toldAs 8 = .ok (.checkcast 120, 3) := by decide +kernel
theorem dX5_toldAs_11 : decode cX5_toldAs 11 = .ok (.astore_n 1, 1) := by decide +kernel
theorem dX5_toldAs_12 : decode cX5_toldAs 12 = .ok (.aload_n 1, 1) := by decide +kernel
theorem dX5_toldAs_13 : decode cX5_toldAs 13 = .ok (.getfield 124, 3) := by decide +kernel
theorem dX5_toldAs_16 : decode cX5_toldAs 16 = .ok (.i2l, 1) := by decide +kernel
theorem dX5_toldAs_17 : decode cX5_toldAs 17 = .ok (.ldc2_w 137, 3) := by decide +kernel
theorem dX5_toldAs_20 : decode cX5_toldAs 20 = .ok (.lmul, 1) := by decide +kernel
theorem dX5_toldAs_21 : decode cX5_toldAs 21 = .ok (.aload_n 1, 1) := by decide +kernel
theorem dX5_toldAs_22 : decode cX5_toldAs 22 = .ok (.getfield 125, 3) := by decide +kernel
theorem dX5_toldAs_25 : decode cX5_toldAs 25 = .ok (.i2l, 1) := by decide +kernel
theorem dX5_toldAs_26 : decode cX5_toldAs 26 = .ok (.ldc2_w 139, 3) := by decide +kernel
theorem dX5_toldAs_29 : decode cX5_toldAs 29 = .ok (.land, 1) := by decide +kernel
theorem dX5_toldAs_30 : decode cX5_toldAs 30 = .ok (.ladd, 1) := by decide +kernel
theorem dX5_toldAs_31 : decode cX5_toldAs 31 = .ok (.lreturn, 1) := by decide +kernel
theorem dX5_toldAs_32 : decode cX5_toldAs 32 = .ok (.aload_n 0, 1) := by decide +kernel
theorem dX5_toldAs_33 : decode cX5_toldAs 33 = .ok (.instanceof 65, 3) := by decide +kernel
theorem dX5_toldAs_36 : decode cX5_toldAs 36 = .ok (.ifCond .eq 14, 3) := by decide +kernel
theorem dX5_toldAs_39 : decode cX5_toldAs 39 = .ok (.aload_n 0, 1) := by decide +kernel
theorem dX5_toldAs_40 : decode cX5_toldAs 40 = .ok (.checkcast 65, 3) := by decide +kernel
theorem dX5_toldAs_43 : decode cX5_toldAs 43 = .ok (.astore_n 1, 1) := by decide +kernel
theorem dX5_toldAs_44 : decode cX5_toldAs 44 = .ok (.aload_n 1, 1) := by decide +kernel
theorem dX5_toldAs_45 : decode cX5_toldAs 45 = .ok (.getfield 67, 3) := by decide +kernel
theorem dX5_toldAs_48 : decode cX5_toldAs 48 = .ok (.i2l, 1) := by decide +kernel
theorem dX5_toldAs_49 : decode cX5_toldAs 49 = .ok (.lreturn, 1) := by decide +kernel
theorem dX5_toldAs_50 : decode cX5_toldAs 50 = .ok (.ldc2_w 141, 3) := by decide +kernel
theorem dX5_toldAs_53 : decode cX5_toldAs 53 = .ok (.lreturn, 1) := by decide +kernel
set_option maxRecDepth 20000 in
theorem ggX5_innerNumber_X3_hasElement : GoodIn wsX5_innerNumber wsX3_hasElement := goodIn_r _ [8, 9, 25, 26, 27, 28, 29, 30, 31, 32] (by decide +kernel) (by decide +kernel)
set_option maxRecDepth 20000 in
theorem gX5_innerNumber_X3_hasElement_u143X1 : GoodIn wsX5_innerNumber (va_wsU RX5 143 RX1 "SpanMover$Row" ⟨"SpanMover$NumberRow", "hasElement", "(I)Z"⟩ yX3_hasElement wsX3_hasElement) := goodIn_app (goodIn_of _ (by decide +kernel)) ggX5_innerNumber_X3_hasElement
set_option maxRecDepth 20000 in
theorem ggX5_innerNumber_X1_numberAt : GoodIn wsX5_innerNumber wsX1_numberAt := goodIn_r _ [14, 15, 25, 26, 27, 28, 29] (by decide +kernel) (by decide +kernel)
set_option maxRecDepth 20000 in
theorem gX5_innerNumber_X1_numberAt : GoodIn wsX5_innerNumber (wsV RX5 86 RX1 yX1_numberAt wsX1_numberAt) := goodIn_app (goodIn_of _ (by decide +kernel)) ggX5_innerNumber_X1_numberAt
theorem dX5_innerNumber_0 : decode cX5_innerNumber 0 = .ok (.aload_n 1, 1) := by decide +kernel
theorem dX5_innerNumber_1 : decode cX5_innerNumber 1 = .ok (.instanceof 46, 3) := by decide +kernel
theorem dX5_innerNumber_4 : decode cX5_innerNumber 4 = .ok (.ifCond .eq 11, 3) := by decide +kernel
theorem dX5_innerNumber_7 : decode cX5_innerNumber 7 = .ok (.aload_n 1, 1) := by decide +kernel
theorem dX5_innerNumber_8 : decode cX5_innerNumber 8 = .ok (.checkcast 46, 3) := by decide +kernel
theorem dX5_innerNumber_11 : decode cX5_innerNumber 11 = .ok (.astore_n 3, 1) := by decide +kernel
theorem dX5_innerNumber_12 : decode cX5_innerNumber 12 = .ok (.goto 10, 3) := by decide +kernel
theorem dX5_innerNumber_15 : decode cX5_innerNumber 15 = .ok (.aload_n 0, 1) := by decide +kernel
theorem dX5_innerNumber_16 : decode cX5_innerNumber 16 = .ok (.iconst 5, 1) := by decide +kernel
theorem dX5_innerNumber_17 : decode cX5_innerNumber 17 = .ok (.putfield 27, 3) := by decide +kernel
theorem dX5_innerNumber_20 : decode cX5_innerNumber 20 = .ok (.lconst 0, 1) := by decide +kernel
theorem dX5_innerNumber_21 : decode cX5_innerNumber 21 = .ok (.lreturn, 1) := by decide +kernel
theorem dX5_innerNumber_22 : decode cX5_innerNumber 22 = .ok (.aload_n 3, 1) := by decide +kernel
theorem dX5_innerNumber_23 : decode cX5_innerNumber 23 = .ok (.iload_n 2, 1) := by decide +kernel
theorem dX5_innerNumber_24 : decode cX5_innerNumber 24 = .ok (.invokevirtual 143, 3) := by decide +kernel
theorem dX5_innerNumber_27 : decode cX5_innerNumber 27 = .ok (.ifCond .ne 11, 3) := by decide +kernel
theorem dX5_innerNumber_30 : decode cX5_innerNumber 30 = .ok (.aload_n 0, 1) := by decide +kernel
theorem dX5_innerNumber_31 : decode cX5_innerNumber 31 = .ok (.bipush 6, 2) := by decide +kernel
theorem dX5_innerNumber_33 : decode cX5_innerNumber 33 = .ok (.putfield 27, 3) := by decide +kernel
theorem dX5_innerNumber_36 : decode cX5_innerNumber 36 = .ok (.lconst 0, 1) := by decide +kernel
theorem dX5_innerNumber_37 : decode cX5_innerNumber 37 = .ok (.lreturn, 1) := by decide +kernel
theorem dX5_innerNumber_38 : decode cX5_innerNumber 38 = .ok (.aload_n 3, 1) := by decide +kernel
theorem dX5_innerNumber_39 : decode cX5_innerNumber 39 = .ok (.iload_n 2, 1) := by decide +kernel
theorem dX5_innerNumber_40 : decode cX5_innerNumber 40 = .ok (.invokevirtual 86, 3) := by decide +kernel
theorem dX5_innerNumber_43 : decode cX5_innerNumber 43 = .ok (.lreturn, 1) := by decide +kernel
set_option maxRecDepth 20000 in
theorem ggX5_standLifted_X5_lowestEmptyPlace : GoodIn wsX5_standLifted wsX5_lowestEmptyPlace := goodIn_r _ [6, 1, 7, 8, 9, 10, 11, 12, 13, 14, 15] (by decide +kernel) (by decide +kernel)
set_option maxRecDepth 20000 in
theorem gX5_standLifted_X5_lowestEmptyPlace : GoodIn wsX5_standLifted (wsV RX5 42 RX5 yX5_lowestEmptyPlace wsX5_lowestEmptyPlace) := goodIn_app (goodIn_of _ (by decide +kernel)) ggX5_standLifted_X5_lowestEmptyPlace
theorem dX5_standLifted_0 : decode cX5_standLifted 0 = .ok (.aload_n 1, 1) := by decide +kernel
theorem dX5_standLifted_1 : decode cX5_standLifted 1 = .ok (.ifnonnull 6, 3) := by decide +kernel
theorem dX5_standLifted_4 : decode cX5_standLifted 4 = .ok (.bipush (-5), 2) := by decide +kernel
theorem dX5_standLifted_6 : decode cX5_standLifted 6 = .ok (.ireturn, 1) := by decide +kernel
theorem dX5_standLifted_7 : decode cX5_standLifted 7 = .ok (.aload_n 0, 1) := by decide +kernel
theorem dX5_standLifted_8 : decode cX5_standLifted 8 = .ok (.invokevirtual 42, 3) := by decide +kernel
theorem dX5_standLifted_11 : decode cX5_standLifted 11 = .ok (.istore_n 2, 1) := by decide +kernel
theorem dX5_standLifted_12 : decode cX5_standLifted 12 = .ok (.iload_n 2, 1) := by decide +kernel
theorem dX5_standLifted_13 : decode cX5_standLifted 13 = .ok (.iconst (-1), 1) := by decide +kernel
theorem dX5_standLifted_14 : decode cX5_standLifted 14 = .ok (.if_icmp .ne 6, 3) := by decide +kernel
theorem dX5_standLifted_17 : decode cX5_standLifted 17 = .ok (.bipush (-6), 2) := by decide +kernel
theorem dX5_standLifted_19 : decode cX5_standLifted 19 = .ok (.ireturn, 1) := by decide +kernel
theorem dX5_standLifted_20 : decode cX5_standLifted 20 = .ok (.aload_n 0, 1) := by decide +kernel
theorem dX5_standLifted_21 : decode cX5_standLifted 21 = .ok (.getfield 11, 3) := by decide +kernel
theorem dX5_standLifted_24 : decode cX5_standLifted 24 = .ok (.iload_n 2, 1) := by decide +kernel
theorem dX5_standLifted_25 : decode cX5_standLifted 25 = .ok (.aload_n 1, 1) := by decide +kernel
theorem dX5_standLifted_26 : decode cX5_standLifted 26 = .ok (.aastore, 1) := by decide +kernel
theorem dX5_standLifted_27 : decode cX5_standLifted 27 = .ok (.iload_n 2, 1) := by decide +kernel
theorem dX5_standLifted_28 : decode cX5_standLifted 28 = .ok (.ireturn, 1) := by decide +kernel
set_option maxRecDepth 20000 in
theorem ggX5_doPlanned_X5_doMove : GoodIn wsX5_doPlanned wsX5_doMove := goodIn_r _ [6, 7, 8, 9, 10, 11, 12, 13, 14, 5, 15, 16, 17, 18, 19, 20, 21, 22, 23, 24, 25, 26, 27, 28, 29, 30, 31, 32, 33, 34, 35, 36, 37, 38, 39, 40, 41, 42, 43, 44, 45, 46, 47, 48, 49, 50, 51, 52, 53, 54, 55, 56, 57, 58, 59, 60, 61, 62, 63, 64, 65, 66, 67, 68, 69, 70, 71, 72, 73, 74, 75, 76, 77, 78, 79] (by decide +kernel) (by decide +kernel)
set_option maxRecDepth 20000 in
theorem gX5_doPlanned_X5_doMove : GoodIn wsX5_doPlanned (wsV RX5 105 RX5 yX5_doMove wsX5_doMove) := goodIn_app (goodIn_of _ (by decide +kernel)) ggX5_doPlanned_X5_doMove
theorem dX5_doPlanned_0 : decode cX5_doPlanned 0 = .ok (.iload_n 1, 1) := by decide +kernel
theorem dX5_doPlanned_1 : decode cX5_doPlanned 1 = .ok (.iconst 5, 1) := by decide +kernel
theorem dX5_doPlanned_2 : decode cX5_doPlanned 2 = .ok (.imul, 1) := by decide +kernel
theorem dX5_doPlanned_3 : decode cX5_doPlanned 3 = .ok (.istore_n 2, 1) := by decide +kernel
theorem dX5_doPlanned_4 : decode cX5_doPlanned 4 = .ok (.aload_n 0, 1) := by decide +kernel
theorem dX5_doPlanned_5 : decode cX5_doPlanned 5 = .ok (.aload_n 0, 1) := by decide +kernel
theorem dX5_doPlanned_6 : decode cX5_doPlanned 6 = .ok (.getfield 15, 3) := by decide +kernel
theorem dX5_doPlanned_9 : decode cX5_doPlanned 9 = .ok (.iload_n 2, 1) := by decide +kernel
theorem dX5_doPlanned_10 : decode cX5_doPlanned 10 = .ok (.iaload, 1) := by decide +kernel
theorem dX5_doPlanned_11 : decode cX5_doPlanned 11 = .ok (.aload_n 0, 1) := by decide +kernel
theorem dX5_doPlanned_12 : decode cX5_doPlanned 12 = .ok (.getfield 15, 3) := by decide +kernel
theorem dX5_doPlanned_15 : decode cX5_doPlanned 15 = .ok (.iload_n 2, 1) := by decide +kernel
theorem dX5_doPlanned_16 : decode cX5_doPlanned 16 = .ok (.iconst 1, 1) := by decide +kernel
theorem dX5_doPlanned_17 : decode cX5_doPlanned 17 = .ok (.iadd, 1) := by decide +kernel
theorem dX5_doPlanned_18 : decode cX5_doPlanned 18 = .ok (.iaload, 1) := by decide +kernel
theorem dX5_doPlanned_19 : decode cX5_doPlanned 19 = .ok (.aload_n 0, 1) := by decide +kernel
theorem dX5_doPlanned_20 : decode cX5_doPlanned 20 = .ok (.getfield 15, 3) := by decide +kernel
theorem dX5_doPlanned_23 : decode cX5_doPlanned 23 = .ok (.iload_n 2, 1) := by decide +kernel
theorem dX5_doPlanned_24 : decode cX5_doPlanned 24 = .ok (.iconst 2, 1) := by decide +kernel
theorem dX5_doPlanned_25 : decode cX5_doPlanned 25 = .ok (.iadd, 1) := by decide +kernel
theorem dX5_doPlanned_26 : decode cX5_doPlanned 26 = .ok (.iaload, 1) := by decide +kernel
theorem dX5_doPlanned_27 : decode cX5_doPlanned 27 = .ok (.aload_n 0, 1) := by decide +kernel
theorem dX5_doPlanned_28 : decode cX5_doPlanned 28 = .ok (.getfield 15, 3) := by decide +kernel
theorem dX5_doPlanned_31 : decode cX5_doPlanned 31 = .ok (.iload_n 2, 1) := by decide +kernel
theorem dX5_doPlanned_32 : decode cX5_doPlanned 32 = .ok (.iconst 3, 1) := by decide +kernel
theorem dX5_doPlanned_33 : decode cX5_doPlanned 33 = .ok (.iadd, 1) := by decide +kernel
theorem dX5_doPlanned_34 : decode cX5_doPlanned 34 = .ok (.iaload, 1) := by decide +kernel
theorem dX5_doPlanned_35 : decode cX5_doPlanned 35 = .ok (.aload_n 0, 1) := by decide +kernel
theorem dX5_doPlanned_36 : decode cX5_doPlanned 36 = .ok (.getfield 15, 3) := by decide +kernel
theorem dX5_doPlanned_39 : decode cX5_doPlanned 39 = .ok (.iload_n 2, 1) := by decide +kernel
theorem dX5_doPlanned_40 : decode cX5_doPlanned 40 = .ok (.iconst 4, 1) := by decide +kernel
theorem dX5_doPlanned_41 : decode cX5_doPlanned 41 = .ok (.iadd, 1) := by decide +kernel
theorem dX5_doPlanned_42 : decode cX5_doPlanned 42 = .ok (.iaload, 1) := by decide +kernel
theorem dX5_doPlanned_43 : decode cX5_doPlanned 43 = .ok (.invokevirtual 105, 3) := by decide +kernel
theorem dX5_doPlanned_46 : decode cX5_doPlanned 46 = .ok (.ireturn, 1) := by decide +kernel
set_option maxRecDepth 20000 in
theorem ggX5_doMove_X5_itemAt : GoodIn wsX5_doMove wsX5_itemAt := goodIn_r _ [10, 11, 56, 57, 58, 59, 60, 61, 62, 63, 64] (by decide +kernel) (by decide +kernel)
set_option maxRecDepth 20000 in
theorem gX5_doMove_X5_itemAt : GoodIn wsX5_doMove (wsV RX5 58 RX5 yX5_itemAt wsX5_itemAt) := goodIn_app (goodIn_of _ (by decide +kernel)) ggX5_doMove_X5_itemAt
set_option maxRecDepth 20000 in
theorem ggX5_doMove_X5_refusalOfRows : GoodIn wsX5_doMove wsX5_refusalOfRows := goodIn_r _ [14, 15, 16, 17, 65, 66, 67, 68, 69, 70, 71, 72, 73, 74] (by decide +kernel) (by decide +kernel)
set_option maxRecDepth 20000 in
theorem gX5_doMove_X5_refusalOfRows : GoodIn wsX5_doMove (va_wsS RX5 144 yX5_refusalOfRows wsX5_refusalOfRows) := goodIn_app (goodIn_of _ (by decide +kernel)) ggX5_doMove_X5_refusalOfRows
set_option maxRecDepth 20000 in
theorem ggX5_doMove_X5_moveSpan : GoodIn wsX5_doMove wsX5_moveSpan := goodIn_r _ [21, 22, 1, 16, 23, 24, 25, 26, 27, 28, 29, 30, 31, 32, 33, 34, 35, 36, 37, 38, 39, 40, 41, 42, 43, 44, 45, 46, 47, 48, 49, 50, 51, 52, 53, 54, 55, 56, 57, 58, 59, 60, 61, 62, 63, 64, 65, 66, 67, 68, 69, 70, 71, 72, 73, 74] (by decide +kernel) (by decide +kernel)
set_option maxRecDepth 20000 in
theorem gX5_doMove_X5_moveSpan : GoodIn wsX5_doMove (wsV RX5 148 RX5 yX5_moveSpan wsX5_moveSpan) := goodIn_app (goodIn_of _ (by decide +kernel)) ggX5_doMove_X5_moveSpan
theorem dX5_doMove_0 : decode cX5_doMove 0 = .ok (.aload_n 0, 1) := by decide +kernel
theorem dX5_doMove_1 : decode cX5_doMove 1 = .ok (.iload_n 1, 1) := by decide +kernel
theorem dX5_doMove_2 : decode cX5_doMove 2 = .ok (.invokevirtual 58, 3) := by decide +kernel
theorem dX5_doMove_5 : decode cX5_doMove 5 = .ok (.astore 6, 2) := by decide +kernel
theorem dX5_doMove_7 : decode cX5_doMove 7 = .ok (.aload_n 0, 1) := by decide +kernel
theorem dX5_doMove_8 : decode cX5_doMove 8 = .ok (.iload_n 3, 1) := by decide +kernel
theorem dX5_doMove_9 : decode cX5_doMove 9 = .ok (.invokevirtual 58, 3) := by decide +kernel
theorem dX5_doMove_12 : decode cX5_doMove 12 = .ok (.astore 7, 2) := by decide +kernel
theorem dX5_doMove_14 : decode cX5_doMove 14 = .ok (.aload_n 0, 1) := by decide +kernel
theorem dX5_doMove_15 : decode cX5_doMove 15 = .ok (.iconst 0, 1) := by decide +kernel
theorem dX5_doMove_16 : decode cX5_doMove 16 = .ok (.putfield 30, 3) := by decide +kernel
theorem dX5_doMove_19 : decode cX5_doMove 19 = .ok (.aload_n 0, 1) := by decide +kernel
theorem dX5_doMove_20 : decode cX5_doMove 20 = .ok (.aload 6, 2) := by decide +kernel
theorem dX5_doMove_22 : decode cX5_doMove 22 = .ok (.aload 7, 2) := by decide +kernel
theorem dX5_doMove_24 : decode cX5_doMove 24 = .ok (.invokestatic 144, 3) := by decide +kernel
theorem dX5_doMove_27 : decode cX5_doMove 27 = .ok (.putfield 33, 3) := by decide +kernel
theorem dX5_doMove_30 : decode cX5_doMove 30 = .ok (.aload_n 0, 1) := by decide +kernel
theorem dX5_doMove_31 : decode cX5_doMove 31 = .ok (.getfield 33, 3) := by decide +kernel
theorem dX5_doMove_34 : decode cX5_doMove 34 = .ok (.ifCond .ne 50, 3) := by decide +kernel
theorem dX5_doMove_37 : decode cX5_doMove 37 = .ok (.aload 6, 2) := by decide +kernel
theorem dX5_doMove_39 : decode cX5_doMove 39 = .ok (.instanceof 65, 3) := by decide +kernel
theorem dX5_doMove_42 : decode cX5_doMove 42 = .ok (.ifCond .eq 42, 3) := by decide +kernel
theorem dX5_doMove_45 : decode cX5_doMove 45 = .ok (.aload 6, 2) := by decide +kernel
theorem dX5_doMove_47 : decode cX5_doMove 47 = .ok (.checkcast 65, 3) := by decide +kernel
theorem dX5_doMove_50 : decode cX5_doMove 50 = .ok (.astore 8, 2) := by decide +kernel
theorem dX5_doMove_52 : decode cX5_doMove 52 = .ok (.aload 7, 2) := by decide +kernel
theorem dX5_doMove_54 : decode cX5_doMove 54 = .ok (.instanceof 65, 3) := by decide +kernel
theorem dX5_doMove_57 : decode cX5_doMove 57 = .ok (.ifCond .eq 27, 3) := by decide +kernel
theorem dX5_doMove_60 : decode cX5_doMove 60 = .ok (.aload 7, 2) := by decide +kernel
theorem dX5_doMove_62 : decode cX5_doMove 62 = .ok (.checkcast 65, 3) := by decide +kernel
theorem dX5_doMove_65 : decode cX5_doMove 65 = .ok (.astore 9, 2) := by decide +kernel
theorem dX5_doMove_67 : decode cX5_doMove 67 = .ok (.aload_n 0, 1) := by decide +kernel
theorem dX5_doMove_68 : decode cX5_doMove 68 = .ok (.aload_n 0, 1) := by decide +kernel
theorem dX5_doMove_69 : decode cX5_doMove 69 = .ok (.aload 8, 2) := by decide +kernel
theorem dX5_doMove_71 : decode cX5_doMove 71 = .ok (.iload_n 2, 1) := by decide +kernel
theorem dX5_doMove_72 : decode cX5_doMove 72 = .ok (.aload 9, 2) := by decide +kernel
theorem dX5_doMove_74 : decode cX5_doMove 74 = .ok (.iload 4, 2) := by decide +kernel
theorem dX5_doMove_76 : decode cX5_doMove 76 = .ok (.iload 5, 2) := by decide +kernel
theorem dX5_doMove_78 : decode cX5_doMove 78 = .ok (.invokevirtual 148, 3) := by decide +kernel
theorem dX5_doMove_81 : decode cX5_doMove 81 = .ok (.putfield 33, 3) := by decide +kernel
theorem dX5_doMove_84 : decode cX5_doMove 84 = .ok (.aload_n 0, 1) := by decide +kernel
theorem dX5_doMove_85 : decode cX5_doMove 85 = .ok (.getfield 33, 3) := by decide +kernel
theorem dX5_doMove_88 : decode cX5_doMove 88 = .ok (.ifCond .ne 16, 3) := by decide +kernel
theorem dX5_doMove_91 : decode cX5_doMove 91 = .ok (.aload_n 0, 1) := by decide +kernel
theorem dX5_doMove_92 : decode cX5_doMove 92 = .ok (.dup, 1) := by decide +kernel
theorem dX5_doMove_93 : decode cX5_doMove 93 = .ok (.getfield 36, 3) := by decide +kernel
theorem dX5_doMove_96 : decode cX5_doMove 96 = .ok (.iconst 1, 1) := by decide +kernel
theorem dX5_doMove_97 : decode cX5_doMove 97 = .ok (.iadd, 1) := by decide +kernel
theorem dX5_doMove_98 : decode cX5_doMove 98 = .ok (.putfield 36, 3) := by decide +kernel
theorem dX5_doMove_101 : decode cX5_doMove 101 = .ok (.goto 13, 3) := by decide +kernel
theorem dX5_doMove_104 : decode cX5_doMove 104 = .ok (.aload_n 0, 1) := by decide +kernel
theorem dX5_doMove_105 : decode cX5_doMove 105 = .ok (.dup, 1) := by decide +kernel
theorem dX5_doMove_106 : decode cX5_doMove 106 = .ok (.getfield 39, 3) := by decide +kernel
theorem dX5_doMove_109 : decode cX5_doMove 109 = .ok (.iconst 1, 1) := by decide +kernel
theorem dX5_doMove_110 : decode cX5_doMove 110 = .ok (.iadd, 1) := by decide +kernel
theorem dX5_doMove_111 : decode cX5_doMove 111 = .ok (.putfield 39, 3) := by decide +kernel
theorem dX5_doMove_114 : decode cX5_doMove 114 = .ok (.aload_n 0, 1) := by decide +kernel
theorem dX5_doMove_115 : decode cX5_doMove 115 = .ok (.getfield 33, 3) := by decide +kernel
theorem dX5_doMove_118 : decode cX5_doMove 118 = .ok (.ireturn, 1) := by decide +kernel
theorem dX5_refusalOfRows_0 : decode cX5_refusalOfRows 0 = .ok (.aload_n 0, 1) := by decide +kernel
theorem dX5_refusalOfRows_1 : decode cX5_refusalOfRows 1 = .ok (.ifnull 7, 3) := by decide +kernel
theorem dX5_refusalOfRows_4 : decode cX5_refusalOfRows 4 = .ok (.aload_n 1, 1) := by decide +kernel
theorem dX5_refusalOfRows_5 : decode cX5_refusalOfRows 5 = .ok (.ifnonnull 5, 3) := by decide +kernel
theorem dX5_refusalOfRows_8 : decode cX5_refusalOfRows 8 = .ok (.iconst 1, 1) := by decide +kernel
theorem dX5_refusalOfRows_9 : decode cX5_refusalOfRows 9 = .ok (.ireturn, 1) := by decide +kernel
theorem dX5_refusalOfRows_10 : decode cX5_refusalOfRows 10 = .ok (.aload_n 0, 1) := by decide +kernel
theorem dX5_refusalOfRows_11 : decode cX5_refusalOfRows 11 = .ok (.instanceof 120, 3) := by decide +kernel
theorem dX5_refusalOfRows_14 : decode cX5_refusalOfRows 14 = .ok (.ifCond .ne 10, 3) := by decide +kernel
theorem dX5_refusalOfRows_17 : decode cX5_refusalOfRows 17 = .ok (.aload_n 1, 1) := by decide +kernel
theorem dX5_refusalOfRows_18 : decode cX5_refusalOfRows 18 = .ok (.instanceof 120, 3) := by decide +kernel
theorem dX5_refusalOfRows_21 : decode cX5_refusalOfRows 21 = .ok (.ifCond .eq 5, 3) := by decide +kernel
theorem dX5_refusalOfRows_24 : decode cX5_refusalOfRows 24 = .ok (.iconst 2, 1) := by decide +kernel
theorem dX5_refusalOfRows_25 : decode cX5_refusalOfRows 25 = .ok (.ireturn, 1) := by decide +kernel
theorem dX5_refusalOfRows_26 : decode cX5_refusalOfRows 26 = .ok (.aload_n 0, 1) := by decide +kernel
theorem dX5_refusalOfRows_27 : decode cX5_refusalOfRows 27 = .ok (.instanceof 51, 3) := by decide +kernel
theorem dX5_refusalOfRows_30 : decode cX5_refusalOfRows 30 = .ok (.ifCond .eq 14, 3) := by decide +kernel
theorem dX5_refusalOfRows_33 : decode cX5_refusalOfRows 33 = .ok (.aload_n 1, 1) := by decide +kernel
theorem dX5_refusalOfRows_34 : decode cX5_refusalOfRows 34 = .ok (.instanceof 51, 3) := by decide +kernel
theorem dX5_refusalOfRows_37 : decode cX5_refusalOfRows 37 = .ok (.ifCond .eq 7, 3) := by decide +kernel
theorem dX5_refusalOfRows_40 : decode cX5_refusalOfRows 40 = .ok (.iconst 1, 1) := by decide +kernel
theorem dX5_refusalOfRows_41 : decode cX5_refusalOfRows 41 = .ok (.goto 4, 3) := by decide +kernel
theorem dX5_refusalOfRows_44 : decode cX5_refusalOfRows 44 = .ok (.iconst 0, 1) := by decide +kernel
theorem dX5_refusalOfRows_45 : decode cX5_refusalOfRows 45 = .ok (.istore_n 2, 1) := by decide +kernel
theorem dX5_refusalOfRows_46 : decode cX5_refusalOfRows 46 = .ok (.iload_n 2, 1) := by decide +kernel
theorem dX5_refusalOfRows_47 : decode cX5_refusalOfRows 47 = .ok (.ifCond .ne 14, 3) := by decide +kernel
theorem dX5_refusalOfRows_50 : decode cX5_refusalOfRows 50 = .ok (.aload_n 0, 1) := by decide +kernel
theorem dX5_refusalOfRows_51 : decode cX5_refusalOfRows 51 = .ok (.getfield 62, 3) := by decide +kernel
theorem dX5_refusalOfRows_54 : decode cX5_refusalOfRows 54 = .ok (.aload_n 1, 1) := by decide +kernel
theorem dX5_refusalOfRows_55 : decode cX5_refusalOfRows 55 = .ok (.getfield 62, 3) := by decide +kernel
theorem dX5_refusalOfRows_58 : decode cX5_refusalOfRows 58 = .ok (.if_icmp .ne 7, 3) := by decide +kernel
theorem dX5_refusalOfRows_61 : decode cX5_refusalOfRows 61 = .ok (.iconst 0, 1) := by decide +kernel
theorem dX5_refusalOfRows_62 : decode cX5_refusalOfRows 62 = .ok (.goto 4, 3) := by decide +kernel
theorem dX5_refusalOfRows_65 : decode cX5_refusalOfRows 65 = .ok (.iconst 3, 1) := by decide +kernel
theorem dX5_refusalOfRows_66 : decode cX5_refusalOfRows 66 = .ok (.ireturn, 1) := by decide +kernel
set_option maxRecDepth 20000 in
theorem ggX5_moveSpan_X3_hasSpan : GoodIn wsX5_moveSpan wsX3_hasSpan := goodIn_r _ [9, 10, 46, 47, 48, 49, 50, 51, 52, 53] (by decide +kernel) (by decide +kernel)
set_option maxRecDepth 20000 in
theorem gX5_moveSpan_X3_hasSpan_u152X1 : GoodIn wsX5_moveSpan (va_wsU RX5 152 RX1 "SpanMover$Row" ⟨"SpanMover$Row", "hasSpan", "(II)Z"⟩ yX3_hasSpan wsX3_hasSpan) := goodIn_app (goodIn_of _ (by decide +kernel)) ggX5_moveSpan_X3_hasSpan
set_option maxRecDepth 20000 in
theorem gX5_moveSpan_X3_hasSpan_u152X2 : GoodIn wsX5_moveSpan (va_wsU RX5 152 RX2 "SpanMover$Row" ⟨"SpanMover$Row", "hasSpan", "(II)Z"⟩ yX3_hasSpan wsX3_hasSpan) := goodIn_app (goodIn_of _ (by decide +kernel)) ggX5_moveSpan_X3_hasSpan
set_option maxRecDepth 20000 in
theorem ggX5_moveSpan_X1_takeSpan : GoodIn wsX5_moveSpan wsX1_takeSpan := goodIn_r _ [16, 17, 18, 19, 20, 21, 22, 46, 47, 48, 49, 50] (by decide +kernel) (by decide +kernel)
set_option maxRecDepth 20000 in
theorem gX5_moveSpan_X1_takeSpan : GoodIn wsX5_moveSpan (wsV RX5 156 RX1 yX1_takeSpan wsX1_takeSpan) := goodIn_app (goodIn_of _ (by decide +kernel)) ggX5_moveSpan_X1_takeSpan
set_option maxRecDepth 20000 in
theorem ggX5_moveSpan_X2_takeFittingSpan : GoodIn wsX5_moveSpan wsX2_takeFittingSpan := goodIn_r _ [27, 28, 29, 19, 20, 21, 30, 31, 32, 26, 33, 34, 35, 36, 51, 52, 53, 46, 47, 48, 49, 50, 54, 55] (by decide +kernel) (by decide +kernel)
set_option maxRecDepth 20000 in
theorem gX5_moveSpan_X2_takeFittingSpan : GoodIn wsX5_moveSpan (wsV RX5 160 RX2 yX2_takeFittingSpan wsX2_takeFittingSpan) := goodIn_app (goodIn_of _ (by decide +kernel)) ggX5_moveSpan_X2_takeFittingSpan
theorem dX5_moveSpan_0 : decode cX5_moveSpan 0 = .ok (.aload_n 1, 1) := by decide +kernel
theorem dX5_moveSpan_1 : decode cX5_moveSpan 1 = .ok (.iload_n 2, 1) := by decide +kernel
theorem dX5_moveSpan_2 : decode cX5_moveSpan 2 = .ok (.iload 5, 2) := by decide +kernel
theorem dX5_moveSpan_4 : decode cX5_moveSpan 4 = .ok (.invokevirtual 152, 3) := by decide +kernel
theorem dX5_moveSpan_7 : decode cX5_moveSpan 7 = .ok (.ifCond .eq 14, 3) := by decide +kernel
theorem dX5_moveSpan_10 : decode cX5_moveSpan 10 = .ok (.aload_n 3, 1) := by decide +kernel
theorem dX5_moveSpan_11 : decode cX5_moveSpan 11 = .ok (.iload 4, 2) := by decide +kernel
theorem dX5_moveSpan_13 : decode cX5_moveSpan 13 = .ok (.iload 5, 2) := by decide +kernel
theorem dX5_moveSpan_15 : decode cX5_moveSpan 15 = .ok (.invokevirtual 152, 3) := by decide +kernel
theorem dX5_moveSpan_18 : decode cX5_moveSpan 18 = .ok (.ifCond .ne 5, 3) := by decide +kernel
theorem dX5_moveSpan_21 : decode cX5_moveSpan 21 = .ok (.iconst 4, 1) := by decide +kernel
theorem dX5_moveSpan_22 : decode cX5_moveSpan 22 = .ok (.ireturn, 1) := by decide +kernel
theorem dX5_moveSpan_23 : decode cX5_moveSpan 23 = .ok (.aload_n 1, 1) := by decide +kernel
theorem dX5_moveSpan_24 : decode cX5_moveSpan 24 = .ok (.instanceof 46, 3) := by decide +kernel
theorem dX5_moveSpan_27 : decode cX5_moveSpan 27 = .ok (.ifCond .eq 40, 3) := by decide +kernel
theorem dX5_moveSpan_30 : decode cX5_moveSpan 30 = .ok (.aload_n 1, 1) := by decide +kernel
theorem dX5_moveSpan_31 : decode cX5_moveSpan 31 = .ok (.checkcast 46, 3) := by decide +kernel
theorem dX5_moveSpan_34 : decode cX5_moveSpan 34 = .ok (.astore 6, 2) := by decide +kernel
theorem dX5_moveSpan_36 : decode cX5_moveSpan 36 = .ok (.aload_n 3, 1) := by decide +kernel
theorem dX5_moveSpan_37 : decode cX5_moveSpan 37 = .ok (.instanceof 46, 3) := by decide +kernel
theorem dX5_moveSpan_40 : decode cX5_moveSpan 40 = .ok (.ifCond .eq 27, 3) := by decide +kernel
theorem dX5_moveSpan_43 : decode cX5_moveSpan 43 = .ok (.aload_n 3, 1) := by decide +kernel
theorem dX5_moveSpan_44 : decode cX5_moveSpan 44 = .ok (.checkcast 46, 3) := by decide +kernel
theorem dX5_moveSpan_47 : decode cX5_moveSpan 47 = .ok (.astore 7, 2) := by decide +kernel
theorem dX5_moveSpan_49 : decode cX5_moveSpan 49 = .ok (.aload 7, 2) := by decide +kernel
theorem dX5_moveSpan_51 : decode cX5_moveSpan 51 = .ok (.iload 4, 2) := by decide +kernel
theorem dX5_moveSpan_53 : decode cX5_moveSpan 53 = .ok (.aload 6, 2) := by decide +kernel
theorem dX5_moveSpan_55 : decode cX5_moveSpan 55 = .ok (.iload_n 2, 1) := by decide +kernel
theorem dX5_moveSpan_56 : decode cX5_moveSpan 56 = .ok (.iload 5, 2) := by decide +kernel
theorem dX5_moveSpan_58 : decode cX5_moveSpan 58 = .ok (.invokevirtual 156, 3) := by decide +kernel
theorem dX5_moveSpan_61 : decode cX5_moveSpan 61 = .ok (.aload_n 0, 1) := by decide +kernel
theorem dX5_moveSpan_62 : decode cX5_moveSpan 62 = .ok (.iload 5, 2) := by decide +kernel
theorem dX5_moveSpan_64 : decode cX5_moveSpan 64 = .ok (.putfield 30, 3) := by decide +kernel
theorem dX5_moveSpan_67 : decode cX5_moveSpan 67 = .ok (.aload_n 1, 1) := by decide +kernel
theorem dX5_moveSpan_68 : decode cX5_moveSpan 68 = .ok (.instanceof 51, 3) := by decide +kernel
theorem dX5_moveSpan_71 : decode cX5_moveSpan 71 = .ok (.ifCond .eq 38, 3) := by decide +kernel
theorem dX5_moveSpan_74 : decode cX5_moveSpan 74 = .ok (.aload_n 1, 1) := by decide +kernel
theorem dX5_moveSpan_75 : decode cX5_moveSpan 75 = .ok (.checkcast 51, 3) := by decide +kernel
theorem dX5_moveSpan_78 : decode cX5_moveSpan 78 = .ok (.astore 6, 2) := by decide +kernel
theorem dX5_moveSpan_80 : decode cX5_moveSpan 80 = .ok (.aload_n 3, 1) := by decide +kernel
theorem dX5_moveSpan_81 : decode cX5_moveSpan 81 = .ok (.instanceof 51, 3) := by decide +kernel
theorem dX5_moveSpan_84 : decode cX5_moveSpan 84 = .ok (.ifCond .eq 25, 3) := by decide +kernel
theorem dX5_moveSpan_87 : decode cX5_moveSpan 87 = .ok (.aload_n 3, 1) := by decide +kernel
theorem dX5_moveSpan_88 : decode cX5_moveSpan 88 = .ok (.checkcast 51, 3) := by decide +kernel
theorem dX5_moveSpan_91 : decode cX5_moveSpan 91 = .ok (.astore 7, 2) := by decide +kernel
theorem dX5_moveSpan_93 : decode cX5_moveSpan 93 = .ok (.aload_n 0, 1) := by decide +kernel
theorem dX5_moveSpan_94 : decode cX5_moveSpan 94 = .ok (.aload 7, 2) := by decide +kernel
theorem dX5_moveSpan_96 : decode cX5_moveSpan 96 = .ok (.iload 4, 2) := by decide +kernel
theorem dX5_moveSpan_98 : decode cX5_moveSpan 98 = .ok (.aload 6, 2) := by decide +kernel
theorem dX5_moveSpan_100 : decode cX5_moveSpan 100 = .ok (.iload_n 2, 1) := by decide +kernel
theorem dX5_moveSpan_101 : decode cX5_moveSpan 101 = .ok (.iload 5, 2) := by decide +kernel
theorem dX5_moveSpan_103 : decode cX5_moveSpan 103 = .ok (.invokevirtual 160, 3) := by decide +kernel
theorem dX5_moveSpan_106 : decode cX5_moveSpan 106 = .ok (.putfield 30, 3) := by decide +kernel
theorem dX5_moveSpan_109 : decode cX5_moveSpan 109 = .ok (.aload_n 0, 1) := by decide +kernel
theorem dX5_moveSpan_110 : decode cX5_moveSpan 110 = .ok (.getfield 30, 3) := by decide +kernel
theorem dX5_moveSpan_113 : decode cX5_moveSpan 113 = .ok (.iload 5, 2) := by decide +kernel
theorem dX5_moveSpan_115 : decode cX5_moveSpan 115 = .ok (.if_icmp .ne 7, 3) := by decide +kernel
theorem dX5_moveSpan_118 : decode cX5_moveSpan 118 = .ok (.iconst 0, 1) := by decide +kernel
theorem dX5_moveSpan_119 : decode cX5_moveSpan 119 = .ok (.goto 4, 3) := by decide +kernel
theorem dX5_moveSpan_122 : decode cX5_moveSpan 122 = .ok (.iconst 5, 1) := by decide +kernel
theorem dX5_moveSpan_123 : decode cX5_moveSpan 123 = .ok (.ireturn, 1) := by decide +kernel
end
section
theorem dX6_init_0 : decode cX6_init 0 = .ok (.aload_n 0, 1) := by decide +kernel
theorem dX6_init_1 : decode cX6_init 1 = .ok (.invokespecial 1, 3) := by decide +kernel
theorem dX6_init_4 : decode cX6_init 4 = .ok (.aload_n 0, 1) := by decide +kernel
theorem dX6_init_5 : decode cX6_init 5 = .ok (.ldc 7, 2) := by decide +kernel
theorem dX6_init_7 : decode cX6_init 7 = .ok (.newarray .long, 2) := by decide +kernel
theorem dX6_init_9 : decode cX6_init 9 = .ok (.putfield 8, 3) := by decide +kernel
theorem dX6_init_12 : decode cX6_init 12 = .ok (.aload_n 0, 1) := by decide +kernel
theorem dX6_init_13 : decode cX6_init 13 = .ok (.sipush 400, 3) := by decide +kernel
theorem dX6_init_16 : decode cX6_init 16 = .ok (.newarray .int, 2) := by decide +kernel
theorem dX6_init_18 : decode cX6_init 18 = .ok (.putfield 14, 3) := by decide +kernel
theorem dX6_init_21 : decode cX6_init 21 = .ok (.aload_n 0, 1) := by decide +kernel
theorem dX6_init_22 : decode cX6_init 22 = .ok (.sipush 320, 3) := by decide +kernel
theorem dX6_init_25 : decode cX6_init 25 = .ok (.newarray .int, 2) := by decide +kernel
theorem dX6_init_27 : decode cX6_init 27 = .ok (.putfield 18, 3) := by decide +kernel
theorem dX6_init_30 : decode cX6_init 30 = .ok (.return_, 1) := by decide +kernel
theorem dX6_isPlace_0 : decode cX6_isPlace 0 = .ok (.iload_n 0, 1) := by decide +kernel
theorem dX6_isPlace_1 : decode cX6_isPlace 1 = .ok (.ifCond .lt 14, 3) := by decide +kernel
theorem dX6_isPlace_4 : decode cX6_isPlace 4 = .ok (.iload_n 0, 1) := by decide +kernel
theorem dX6_isPlace_5 : decode cX6_isPlace 5 = .ok (.sipush 400, 3) := by decide +kernel
theorem dX6_isPlace_8 : decode cX6_isPlace 8 = .ok (.if_icmp .ge 7, 3) := by decide +kernel
theorem dX6_isPlace_11 : decode cX6_isPlace 11 = .ok (.iconst 1, 1) := by decide +kernel
theorem dX6_isPlace_12 : decode cX6_isPlace 12 = .ok (.goto 4, 3) := by decide +kernel
theorem dX6_isPlace_15 : decode cX6_isPlace 15 = .ok (.iconst 0, 1) := by decide +kernel
theorem dX6_isPlace_16 : decode cX6_isPlace 16 = .ok (.ireturn, 1) := by decide +kernel
set_option maxRecDepth 20000 in
theorem ggX6_in_X6_isPlace : GoodIn wsX6_in wsX6_isPlace := goodIn_r _ [5] (by decide +kernel) (by decide +kernel)
set_option maxRecDepth 20000 in
theorem gX6_in_X6_isPlace : GoodIn wsX6_in (va_wsS RX6 21 yX6_isPlace wsX6_isPlace) := goodIn_app (goodIn_of _ (by decide +kernel)) ggX6_in_X6_isPlace
theorem dX6_in_0 : decode cX6_in 0 = .ok (.iload_n 1, 1) := by decide +kernel
theorem dX6_in_1 : decode cX6_in 1 = .ok (.invokestatic 21, 3) := by decide +kernel
theorem dX6_in_4 : decode cX6_in 4 = .ok (.ifCond .eq 14, 3) := by decide +kernel
theorem dX6_in_7 : decode cX6_in 7 = .ok (.aload_n 0, 1) := by decide +kernel
theorem dX6_in_8 : decode cX6_in 8 = .ok (.getfield 14, 3) := by decide +kernel
theorem dX6_in_11 : decode cX6_in 11 = .ok (.iload_n 1, 1) := by decide +kernel
theorem dX6_in_12 : decode cX6_in 12 = .ok (.iaload, 1) := by decide +kernel
theorem dX6_in_13 : decode cX6_in 13 = .ok (.iconst 1, 1) := by decide +kernel
theorem dX6_in_14 : decode cX6_in 14 = .ok (.isub, 1) := by decide +kernel
theorem dX6_in_15 : decode cX6_in 15 = .ok (.goto 4, 3) := by decide +kernel
theorem dX6_in_18 : decode cX6_in 18 = .ok (.iconst (-1), 1) := by decide +kernel
theorem dX6_in_19 : decode cX6_in 19 = .ok (.ireturn, 1) := by decide +kernel
theorem dX6_kind_0 : decode cX6_kind 0 = .ok (.aload_n 0, 1) := by decide +kernel
theorem dX6_kind_1 : decode cX6_kind 1 = .ok (.getfield 8, 3) := by decide +kernel
theorem dX6_kind_4 : decode cX6_kind 4 = .ok (.iload_n 1, 1) := by decide +kernel
theorem dX6_kind_5 : decode cX6_kind 5 = .ok (.laload, 1) := by decide +kernel
theorem dX6_kind_6 : decode cX6_kind 6 = .ok (.bipush 32, 2) := by decide +kernel
theorem dX6_kind_8 : decode cX6_kind 8 = .ok (.lshr, 1) := by decide +kernel
theorem dX6_kind_9 : decode cX6_kind 9 = .ok (.l2i, 1) := by decide +kernel
theorem dX6_kind_10 : decode cX6_kind 10 = .ok (.ireturn, 1) := by decide +kernel
theorem dX6_low_0 : decode cX6_low 0 = .ok (.aload_n 0, 1) := by decide +kernel
theorem dX6_low_1 : decode cX6_low 1 = .ok (.getfield 8, 3) := by decide +kernel
theorem dX6_low_4 : decode cX6_low 4 = .ok (.iload_n 1, 1) := by decide +kernel
theorem dX6_low_5 : decode cX6_low 5 = .ok (.laload, 1) := by decide +kernel
theorem dX6_low_6 : decode cX6_low 6 = .ok (.l2i, 1) := by decide +kernel
theorem dX6_low_7 : decode cX6_low 7 = .ok (.ireturn, 1) := by decide +kernel
set_option maxRecDepth 20000 in
theorem ggX6_isThing_X6_kind : GoodIn wsX6_isThing wsX6_kind := goodIn_r _ [5, 6, 7, 8, 9, 10, 11, 12, 13, 14, 15, 16] (by decide +kernel) (by decide +kernel)
set_option maxRecDepth 20000 in
theorem gX6_isThing_X6_kind : GoodIn wsX6_isThing (wsV RX6 25 RX6 yX6_kind wsX6_kind) := goodIn_app (goodIn_of _ (by decide +kernel)) ggX6_isThing_X6_kind
theorem dX6_isThing_0 : decode cX6_isThing 0 = .ok (.aload_n 0, 1) := by decide +kernel
theorem dX6_isThing_1 : decode cX6_isThing 1 = .ok (.iload_n 1, 1) := by decide +kernel
theorem dX6_isThing_2 : decode cX6_isThing 2 = .ok (.invokevirtual 25, 3) := by decide +kernel
theorem dX6_isThing_5 : decode cX6_isThing 5 = .ok (.bipush 7, 2) := by decide +kernel
theorem dX6_isThing_7 : decode cX6_isThing 7 = .ok (.if_icmp .lt 7, 3) := by decide +kernel
theorem dX6_isThing_10 : decode cX6_isThing 10 = .ok (.iconst 1, 1) := by decide +kernel
theorem dX6_isThing_11 : decode cX6_isThing 11 = .ok (.goto 4, 3) := by decide +kernel
theorem dX6_isThing_14 : decode cX6_isThing 14 = .ok (.iconst 0, 1) := by decide +kernel
theorem dX6_isThing_15 : decode cX6_isThing 15 = .ok (.ireturn, 1) := by decide +kernel
set_option maxRecDepth 20000 in
theorem ggX6_isOfObjects_X6_kind : GoodIn wsX6_isOfObjects wsX6_kind := goodIn_r _ [5, 6, 7, 8, 9, 10, 11, 12, 13, 14, 15, 16] (by decide +kernel) (by decide +kernel)
set_option maxRecDepth 20000 in
theorem gX6_isOfObjects_X6_kind : GoodIn wsX6_isOfObjects (wsV RX6 25 RX6 yX6_kind wsX6_kind) := goodIn_app (goodIn_of _ (by decide +kernel)) ggX6_isOfObjects_X6_kind
theorem dX6_isOfObjects_0 : decode cX6_isOfObjects 0 = .ok (.aload_n 0, 1) := by decide +kernel
theorem dX6_isOfObjects_1 : decode cX6_isOfObjects 1 = .ok (.iload_n 1, 1) := by decide +kernel
theorem dX6_isOfObjects_2 : decode cX6_isOfObjects 2 = .ok (.invokevirtual 25, 3) := by decide +kernel
theorem dX6_isOfObjects_5 : decode cX6_isOfObjects 5 = .ok (.iconst 4, 1) := by decide +kernel
theorem dX6_isOfObjects_6 : decode cX6_isOfObjects 6 = .ok (.if_icmp .lt 17, 3) := by decide +kernel
theorem dX6_isOfObjects_9 : decode cX6_isOfObjects 9 = .ok (.aload_n 0, 1) := by decide +kernel
theorem dX6_isOfObjects_10 : decode cX6_isOfObjects 10 = .ok (.iload_n 1, 1) := by decide +kernel
theorem dX6_isOfObjects_11 : decode cX6_isOfObjects 11 = .ok (.invokevirtual 25, 3) := by decide +kernel
theorem dX6_isOfObjects_14 : decode cX6_isOfObjects 14 = .ok (.bipush 6, 2) := by decide +kernel
theorem dX6_isOfObjects_16 : decode cX6_isOfObjects 16 = .ok (.if_icmp .gt 7, 3) := by decide +kernel
theorem dX6_isOfObjects_19 : decode cX6_isOfObjects 19 = .ok (.iconst 1, 1) := by decide +kernel
theorem dX6_isOfObjects_20 : decode cX6_isOfObjects 20 = .ok (.goto 4, 3) := by decide +kernel
theorem dX6_isOfObjects_23 : decode cX6_isOfObjects 23 = .ok (.iconst 0, 1) := by decide +kernel
theorem dX6_isOfObjects_24 : decode cX6_isOfObjects 24 = .ok (.ireturn, 1) := by decide +kernel
set_option maxRecDepth 20000 in
theorem ggX6_isElement_X6_low : GoodIn wsX6_isElement wsX6_low := goodIn_r _ [5, 6, 7, 8, 9, 10, 11, 12, 13, 14, 15, 16] (by decide +kernel) (by decide +kernel)
set_option maxRecDepth 20000 in
theorem gX6_isElement_X6_low : GoodIn wsX6_isElement (wsV RX6 29 RX6 yX6_low wsX6_low) := goodIn_app (goodIn_of _ (by decide +kernel)) ggX6_isElement_X6_low
theorem dX6_isElement_0 : decode cX6_isElement 0 = .ok (.iload_n 2, 1) := by decide +kernel
theorem dX6_isElement_1 : decode cX6_isElement 1 = .ok (.ifCond .lt 16, 3) := by decide +kernel
theorem dX6_isElement_4 : decode cX6_isElement 4 = .ok (.iload_n 2, 1) := by decide +kernel
theorem dX6_isElement_5 : decode cX6_isElement 5 = .ok (.aload_n 0, 1) := by decide +kernel
theorem dX6_isElement_6 : decode cX6_isElement 6 = .ok (.iload_n 1, 1) := by decide +kernel
theorem dX6_isElement_7 : decode cX6_isElement 7 = .ok (.invokevirtual 29, 3) := by decide +kernel
theorem dX6_isElement_10 : decode cX6_isElement 10 = .ok (.if_icmp .ge 7, 3) := by decide +kernel
theorem dX6_isElement_13 : decode cX6_isElement 13 = .ok (.iconst 1, 1) := by decide +kernel
theorem dX6_isElement_14 : decode cX6_isElement 14 = .ok (.goto 4, 3) := by decide +kernel
theorem dX6_isElement_17 : decode cX6_isElement 17 = .ok (.iconst 0, 1) := by decide +kernel
theorem dX6_isElement_18 : decode cX6_isElement 18 = .ok (.ireturn, 1) := by decide +kernel
theorem dX6_object_0 : decode cX6_object 0 = .ok (.aload_n 0, 1) := by decide +kernel
theorem dX6_object_1 : decode cX6_object 1 = .ok (.getfield 8, 3) := by decide +kernel
theorem dX6_object_4 : decode cX6_object 4 = .ok (.iload_n 1, 1) := by decide +kernel
theorem dX6_object_5 : decode cX6_object 5 = .ok (.iconst 1, 1) := by decide +kernel
theorem dX6_object_6 : decode cX6_object 6 = .ok (.iadd, 1) := by decide +kernel
theorem dX6_object_7 : decode cX6_object 7 = .ok (.iload_n 2, 1) := by decide +kernel
theorem dX6_object_8 : decode cX6_object 8 = .ok (.iadd, 1) := by decide +kernel
theorem dX6_object_9 : decode cX6_object 9 = .ok (.laload, 1) := by decide +kernel
theorem dX6_object_10 : decode cX6_object 10 = .ok (.l2i, 1) := by decide +kernel
theorem dX6_object_11 : decode cX6_object 11 = .ok (.iconst 1, 1) := by decide +kernel
theorem dX6_object_12 : decode cX6_object 12 = .ok (.isub, 1) := by decide +kernel
theorem dX6_object_13 : decode cX6_object 13 = .ok (.ireturn, 1) := by decide +kernel
theorem dX6_lowestEmpty_0 : decode cX6_lowestEmpty 0 = .ok (.iconst 0, 1) := by decide +kernel
theorem dX6_lowestEmpty_1 : decode cX6_lowestEmpty 1 = .ok (.istore_n 1, 1) := by decide +kernel
theorem dX6_lowestEmpty_2 : decode cX6_lowestEmpty 2 = .ok (.iload_n 1, 1) := by decide +kernel
theorem dX6_lowestEmpty_3 : decode cX6_lowestEmpty 3 = .ok (.sipush 400, 3) := by decide +kernel
theorem dX6_lowestEmpty_6 : decode cX6_lowestEmpty 6 = .ok (.if_icmp .ge 18, 3) := by decide +kernel
theorem dX6_lowestEmpty_9 : decode cX6_lowestEmpty 9 = .ok (.aload_n 0, 1) := by decide +kernel
theorem dX6_lowestEmpty_10 : decode cX6_lowestEmpty 10 = .ok (.getfield 14, 3) := by decide +kernel
theorem dX6_lowestEmpty_13 : decode cX6_lowestEmpty 13 = .ok (.iload_n 1, 1) := by decide +kernel
theorem dX6_lowestEmpty_14 : decode cX6_lowestEmpty 14 = .ok (.iaload, 1) := by decide +kernel
theorem dX6_lowestEmpty_15 : decode cX6_lowestEmpty 15 = .ok (.ifCond .le 9, 3) := by decide +kernel
theorem dX6_lowestEmpty_18 : decode cX6_lowestEmpty 18 = .ok (.iinc 1 1, 3) := by decide +kernel
theorem dX6_lowestEmpty_21 : decode cX6_lowestEmpty 21 = .ok (.goto (-19), 3) := by decide +kernel
theorem dX6_lowestEmpty_24 : decode cX6_lowestEmpty 24 = .ok (.iload_n 1, 1) := by decide +kernel
theorem dX6_lowestEmpty_25 : decode cX6_lowestEmpty 25 = .ok (.sipush 400, 3) := by decide +kernel
theorem dX6_lowestEmpty_28 : decode cX6_lowestEmpty 28 = .ok (.if_icmp .ge 7, 3) := by decide +kernel
theorem dX6_lowestEmpty_31 : decode cX6_lowestEmpty 31 = .ok (.iload_n 1, 1) := by decide +kernel
theorem dX6_lowestEmpty_32 : decode cX6_lowestEmpty 32 = .ok (.goto 4, 3) := by decide +kernel
theorem dX6_lowestEmpty_35 : decode cX6_lowestEmpty 35 = .ok (.iconst (-1), 1) := by decide +kernel
theorem dX6_lowestEmpty_36 : decode cX6_lowestEmpty 36 = .ok (.ireturn, 1) := by decide +kernel
theorem dX6_stand_0 : decode cX6_stand 0 = .ok (.aload_n 0, 1) := by decide +kernel
theorem dX6_stand_1 : decode cX6_stand 1 = .ok (.getfield 8, 3) := by decide +kernel
theorem dX6_stand_4 : decode cX6_stand 4 = .ok (.aload_n 0, 1) := by decide +kernel
theorem dX6_stand_5 : decode cX6_stand 5 = .ok (.getfield 32, 3) := by decide +kernel
theorem dX6_stand_8 : decode cX6_stand 8 = .ok (.iload_n 2, 1) := by decide +kernel
theorem dX6_stand_9 : decode cX6_stand 9 = .ok (.i2l, 1) := by decide +kernel
theorem dX6_stand_10 : decode cX6_stand 10 = .ok (.bipush 32, 2) := by decide +kernel
theorem dX6_stand_12 : decode cX6_stand 12 = .ok (.lshl, 1) := by decide +kernel
theorem dX6_stand_13 : decode cX6_stand 13 = .ok (.iload_n 3, 1) := by decide +kernel
theorem dX6_stand_14 : decode cX6_stand 14 = .ok (.i2l, 1) := by decide +kernel
theorem dX6_stand_15 : decode cX6_stand 15 = .ok (.ldc2_w 36, 3) := by decide +kernel
theorem dX6_stand_18 : decode cX6_stand 18 = .ok (.land, 1) := by decide +kernel
theorem dX6_stand_19 : decode cX6_stand 19 = .ok (.lor, 1) := by decide +kernel
theorem dX6_stand_20 : decode cX6_stand 20 = .ok (.lastore, 1) := by decide +kernel
theorem dX6_stand_21 : decode cX6_stand 21 = .ok (.aload_n 0, 1) := by decide +kernel
theorem dX6_stand_22 : decode cX6_stand 22 = .ok (.getfield 14, 3) := by decide +kernel
theorem dX6_stand_25 : decode cX6_stand 25 = .ok (.iload_n 1, 1) := by decide +kernel
theorem dX6_stand_26 : decode cX6_stand 26 = .ok (.aload_n 0, 1) := by decide +kernel
theorem dX6_stand_27 : decode cX6_stand 27 = .ok (.getfield 32, 3) := by decide +kernel
theorem dX6_stand_30 : decode cX6_stand 30 = .ok (.iconst 1, 1) := by decide +kernel
theorem dX6_stand_31 : decode cX6_stand 31 = .ok (.iadd, 1) := by decide +kernel
theorem dX6_stand_32 : decode cX6_stand 32 = .ok (.iastore, 1) := by decide +kernel
theorem dX6_stand_33 : decode cX6_stand 33 = .ok (.aload_n 0, 1) := by decide +kernel
theorem dX6_stand_34 : decode cX6_stand 34 = .ok (.dup, 1) := by decide +kernel
theorem dX6_stand_35 : decode cX6_stand 35 = .ok (.getfield 32, 3) := by decide +kernel
theorem dX6_stand_38 : decode cX6_stand 38 = .ok (.iconst 1, 1) := by decide +kernel
theorem dX6_stand_39 : decode cX6_stand 39 = .ok (.iadd, 1) := by decide +kernel
theorem dX6_stand_40 : decode cX6_stand 40 = .ok (.putfield 32, 3) := by decide +kernel
theorem dX6_stand_43 : decode cX6_stand 43 = .ok (.iload_n 1, 1) := by decide +kernel
theorem dX6_stand_44 : decode cX6_stand 44 = .ok (.ireturn, 1) := by decide +kernel
set_option maxRecDepth 20000 in
theorem ggX6_row_X6_lowestEmpty : GoodIn wsX6_row wsX6_lowestEmpty := goodIn_r _ [7, 8, 15, 16, 17, 18, 19, 20, 21, 22, 23, 24] (by decide +kernel) (by decide +kernel)
set_option maxRecDepth 20000 in
theorem gX6_row_X6_lowestEmpty : GoodIn wsX6_row (wsV RX6 38 RX6 yX6_lowestEmpty wsX6_lowestEmpty) := goodIn_app (goodIn_of _ (by decide +kernel)) ggX6_row_X6_lowestEmpty
set_option maxRecDepth 20000 in
theorem ggX6_row_X6_stand : GoodIn wsX6_row wsX6_stand := goodIn_r _ [12, 13, 2, 14, 8, 15, 16, 17, 18, 19, 20, 21, 22, 23, 24] (by decide +kernel) (by decide +kernel)
set_option maxRecDepth 20000 in
theorem gX6_row_X6_stand : GoodIn wsX6_row (wsV RX6 42 RX6 yX6_stand wsX6_stand) := goodIn_app (goodIn_of _ (by decide +kernel)) ggX6_row_X6_stand
theorem dX6_row_0 : decode cX6_row 0 = .ok (.iload_n 1, 1) := by decide +kernel
theorem dX6_row_1 : decode cX6_row 1 = .ok (.ifCond .lt 9, 3) := by decide +kernel
theorem dX6_row_4 : decode cX6_row 4 = .ok (.iload_n 1, 1) := by decide +kernel
theorem dX6_row_5 : decode cX6_row 5 = .ok (.bipush 6, 2) := by decide +kernel
theorem dX6_row_7 : decode cX6_row 7 = .ok (.if_icmp .le 5, 3) := by decide +kernel
theorem dX6_row_10 : decode cX6_row 10 = .ok (.iconst (-1), 1) := by decide +kernel
theorem dX6_row_11 : decode cX6_row 11 = .ok (.ireturn, 1) := by decide +kernel
theorem dX6_row_12 : decode cX6_row 12 = .ok (.aload_n 0, 1) := by decide +kernel
theorem dX6_row_13 : decode cX6_row 13 = .ok (.invokevirtual 38, 3) := by decide +kernel
theorem dX6_row_16 : decode cX6_row 16 = .ok (.istore_n 3, 1) := by decide +kernel
theorem dX6_row_17 : decode cX6_row 17 = .ok (.iload_n 2, 1) := by decide +kernel
theorem dX6_row_18 : decode cX6_row 18 = .ok (.sipush 2000, 3) := by decide +kernel
theorem dX6_row_21 : decode cX6_row 21 = .ok (.if_icmp .gt 18, 3) := by decide +kernel
theorem dX6_row_24 : decode cX6_row 24 = .ok (.iload_n 3, 1) := by decide +kernel
theorem dX6_row_25 : decode cX6_row 25 = .ok (.ifCond .lt 14, 3) := by decide +kernel
theorem dX6_row_28 : decode cX6_row 28 = .ok (.iload_n 2, 1) := by decide +kernel
theorem dX6_row_29 : decode cX6_row 29 = .ok (.ldc 7, 2) := by decide +kernel
theorem dX6_row_31 : decode cX6_row 31 = .ok (.aload_n 0, 1) := by decide +kernel
theorem dX6_row_32 : decode cX6_row 32 = .ok (.getfield 32, 3) := by decide +kernel
theorem dX6_row_35 : decode cX6_row 35 = .ok (.isub, 1) := by decide +kernel
theorem dX6_row_36 : decode cX6_row 36 = .ok (.if_icmp .lt 6, 3) := by decide +kernel
theorem dX6_row_39 : decode cX6_row 39 = .ok (.bipush (-2), 2) := by decide +kernel
theorem dX6_row_41 : decode cX6_row 41 = .ok (.ireturn, 1) := by decide +kernel
theorem dX6_row_42 : decode cX6_row 42 = .ok (.iload_n 2, 1) := by decide +kernel
theorem dX6_row_43 : decode cX6_row 43 = .ok (.ifCond .ge 6, 3) := by decide +kernel
theorem dX6_row_46 : decode cX6_row 46 = .ok (.bipush (-3), 2) := by decide +kernel
theorem dX6_row_48 : decode cX6_row 48 = .ok (.ireturn, 1) := by decide +kernel
theorem dX6_row_49 : decode cX6_row 49 = .ok (.aload_n 0, 1) := by decide +kernel
theorem dX6_row_50 : decode cX6_row 50 = .ok (.iload_n 3, 1) := by decide +kernel
theorem dX6_row_51 : decode cX6_row 51 = .ok (.iload_n 1, 1) := by decide +kernel
theorem dX6_row_52 : decode cX6_row 52 = .ok (.iload_n 2, 1) := by decide +kernel
theorem dX6_row_53 : decode cX6_row 53 = .ok (.invokevirtual 42, 3) := by decide +kernel
theorem dX6_row_56 : decode cX6_row 56 = .ok (.pop, 1) := by decide +kernel
theorem dX6_row_57 : decode cX6_row 57 = .ok (.aload_n 0, 1) := by decide +kernel
theorem dX6_row_58 : decode cX6_row 58 = .ok (.dup, 1) := by decide +kernel
theorem dX6_row_59 : decode cX6_row 59 = .ok (.getfield 32, 3) := by decide +kernel
theorem dX6_row_62 : decode cX6_row 62 = .ok (.iload_n 2, 1) := by decide +kernel
theorem dX6_row_63 : decode cX6_row 63 = .ok (.iadd, 1) := by decide +kernel
theorem dX6_row_64 : decode cX6_row 64 = .ok (.putfield 32, 3) := by decide +kernel
theorem dX6_row_67 : decode cX6_row 67 = .ok (.iload_n 3, 1) := by decide +kernel
theorem dX6_row_68 : decode cX6_row 68 = .ok (.ireturn, 1) := by decide +kernel
set_option maxRecDepth 20000 in
theorem ggX6_thing_X6_lowestEmpty : GoodIn wsX6_thing wsX6_lowestEmpty := goodIn_r _ [7, 8, 15, 16, 17, 18, 19, 20, 21, 22, 23, 24] (by decide +kernel) (by decide +kernel)
set_option maxRecDepth 20000 in
theorem gX6_thing_X6_lowestEmpty : GoodIn wsX6_thing (wsV RX6 38 RX6 yX6_lowestEmpty wsX6_lowestEmpty) := goodIn_app (goodIn_of _ (by decide +kernel)) ggX6_thing_X6_lowestEmpty
set_option maxRecDepth 20000 in
theorem ggX6_thing_X6_stand : GoodIn wsX6_thing wsX6_stand := goodIn_r _ [12, 13, 1, 14, 8, 15, 16, 17, 18, 19, 20, 21, 22, 23, 24] (by decide +kernel) (by decide +kernel)
set_option maxRecDepth 20000 in
theorem gX6_thing_X6_stand : GoodIn wsX6_thing (wsV RX6 42 RX6 yX6_stand wsX6_stand) := goodIn_app (goodIn_of _ (by decide +kernel)) ggX6_thing_X6_stand
theorem dX6_thing_0 : decode cX6_thing 0 = .ok (.aload_n 0, 1) := by decide +kernel
theorem dX6_thing_1 : decode cX6_thing 1 = .ok (.invokevirtual 38, 3) := by decide +kernel
theorem dX6_thing_4 : decode cX6_thing 4 = .ok (.istore_n 3, 1) := by decide +kernel
theorem dX6_thing_5 : decode cX6_thing 5 = .ok (.iload_n 3, 1) := by decide +kernel
theorem dX6_thing_6 : decode cX6_thing 6 = .ok (.ifCond .lt 12, 3) := by decide +kernel
theorem dX6_thing_9 : decode cX6_thing 9 = .ok (.aload_n 0, 1) := by decide +kernel
theorem dX6_thing_10 : decode cX6_thing 10 = .ok (.getfield 32, 3) := by decide +kernel
theorem dX6_thing_13 : decode cX6_thing 13 = .ok (.ldc 7, 2) := by decide +kernel
theorem dX6_thing_15 : decode cX6_thing 15 = .ok (.if_icmp .ne 6, 3) := by decide +kernel
theorem dX6_thing_18 : decode cX6_thing 18 = .ok (.bipush (-2), 2) := by decide +kernel
theorem dX6_thing_20 : decode cX6_thing 20 = .ok (.ireturn, 1) := by decide +kernel
theorem dX6_thing_21 : decode cX6_thing 21 = .ok (.aload_n 0, 1) := by decide +kernel
theorem dX6_thing_22 : decode cX6_thing 22 = .ok (.iload_n 3, 1) := by decide +kernel
theorem dX6_thing_23 : decode cX6_thing 23 = .ok (.iload_n 1, 1) := by decide +kernel
theorem dX6_thing_24 : decode cX6_thing 24 = .ok (.iload_n 2, 1) := by decide +kernel
theorem dX6_thing_25 : decode cX6_thing 25 = .ok (.invokevirtual 42, 3) := by decide +kernel
theorem dX6_thing_28 : decode cX6_thing 28 = .ok (.ireturn, 1) := by decide +kernel
set_option maxRecDepth 20000 in
theorem ggX6_mark_X6_thing : GoodIn wsX6_mark wsX6_thing := goodIn_r _ [5, 6, 7, 8, 9, 10, 4, 11, 12, 13, 14, 15, 16, 17, 18, 19, 20, 21, 22, 23, 24, 25, 26, 27, 28] (by decide +kernel) (by decide +kernel)
set_option maxRecDepth 20000 in
theorem gX6_mark_X6_thing : GoodIn wsX6_mark (wsV RX6 46 RX6 yX6_thing wsX6_thing) := goodIn_app (goodIn_of _ (by decide +kernel)) ggX6_mark_X6_thing
theorem dX6_mark_0 : decode cX6_mark 0 = .ok (.aload_n 0, 1) := by decide +kernel
theorem dX6_mark_1 : decode cX6_mark 1 = .ok (.bipush 7, 2) := by decide +kernel
theorem dX6_mark_3 : decode cX6_mark 3 = .ok (.iload_n 1, 1) := by decide +kernel
theorem dX6_mark_4 : decode cX6_mark 4 = .ok (.invokevirtual 46, 3) := by decide +kernel
theorem dX6_mark_7 : decode cX6_mark 7 = .ok (.ireturn, 1) := by decide +kernel
set_option maxRecDepth 20000 in
theorem ggX6_seal_X6_thing : GoodIn wsX6_seal wsX6_thing := goodIn_r _ [5, 6, 7, 8, 9, 10, 4, 11, 12, 13, 14, 15, 16, 17, 18, 19, 20, 21, 22, 23, 24, 25, 26, 27, 28] (by decide +kernel) (by decide +kernel)
set_option maxRecDepth 20000 in
theorem gX6_seal_X6_thing : GoodIn wsX6_seal (wsV RX6 46 RX6 yX6_thing wsX6_thing) := goodIn_app (goodIn_of _ (by decide +kernel)) ggX6_seal_X6_thing
theorem dX6_seal_0 : decode cX6_seal 0 = .ok (.aload_n 0, 1) := by decide +kernel
theorem dX6_seal_1 : decode cX6_seal 1 = .ok (.bipush 8, 2) := by decide +kernel
theorem dX6_seal_3 : decode cX6_seal 3 = .ok (.iload_n 1, 1) := by decide +kernel
theorem dX6_seal_4 : decode cX6_seal 4 = .ok (.invokevirtual 46, 3) := by decide +kernel
theorem dX6_seal_7 : decode cX6_seal 7 = .ok (.ireturn, 1) := by decide +kernel
set_option maxRecDepth 20000 in
theorem ggX6_kindOf_X6_in : GoodIn wsX6_kindOf wsX6_in := goodIn_r _ [5, 6, 7, 8, 4, 9, 15, 16, 17, 18, 19, 20, 21, 22, 23, 24] (by decide +kernel) (by decide +kernel)
set_option maxRecDepth 20000 in
theorem gX6_kindOf_X6_in : GoodIn wsX6_kindOf (wsV RX6 50 RX6 yX6_in wsX6_in) := goodIn_app (goodIn_of _ (by decide +kernel)) ggX6_kindOf_X6_in
set_option maxRecDepth 20000 in
theorem ggX6_kindOf_X6_kind : GoodIn wsX6_kindOf wsX6_kind := goodIn_r _ [13, 14, 15, 16, 17, 18, 19, 20, 21, 22, 23, 24] (by decide +kernel) (by decide +kernel)
set_option maxRecDepth 20000 in
theorem gX6_kindOf_X6_kind : GoodIn wsX6_kindOf (wsV RX6 25 RX6 yX6_kind wsX6_kind) := goodIn_app (goodIn_of _ (by decide +kernel)) ggX6_kindOf_X6_kind
theorem dX6_kindOf_0 : decode cX6_kindOf 0 = .ok (.aload_n 0, 1) := by decide +kernel
theorem dX6_kindOf_1 : decode cX6_kindOf 1 = .ok (.iload_n 1, 1) := by decide +kernel
theorem dX6_kindOf_2 : decode cX6_kindOf 2 = .ok (.invokevirtual 50, 3) := by decide +kernel
theorem dX6_kindOf_5 : decode cX6_kindOf 5 = .ok (.ifCond .ge 7, 3) := by decide +kernel
theorem dX6_kindOf_8 : decode cX6_kindOf 8 = .ok (.iconst (-1), 1) := by decide +kernel
theorem dX6_kindOf_9 : decode cX6_kindOf 9 = .ok (.goto 12, 3) := by decide +kernel
theorem dX6_kindOf_12 : decode cX6_kindOf 12 = .ok (.aload_n 0, 1) := by decide +kernel
theorem dX6_kindOf_13 : decode cX6_kindOf 13 = .ok (.aload_n 0, 1) := by decide +kernel
theorem dX6_kindOf_14 : decode cX6_kindOf 14 = .ok (.iload_n 1, 1) := by decide +kernel
theorem dX6_kindOf_15 : decode cX6_kindOf 15 = .ok (.invokevirtual 50, 3) := by decide +kernel
theorem dX6_kindOf_18 : decode cX6_kindOf 18 = .ok (.invokevirtual 25, 3) := by decide +kernel
theorem dX6_kindOf_21 : decode cX6_kindOf 21 = .ok (.ireturn, 1) := by decide +kernel
set_option maxRecDepth 20000 in
theorem ggX6_length_X6_in : GoodIn wsX6_length wsX6_in := goodIn_r _ [5, 6, 7, 8, 4, 9, 23, 24, 25, 26, 27, 28, 29, 30, 31, 32] (by decide +kernel) (by decide +kernel)
set_option maxRecDepth 20000 in
theorem gX6_length_X6_in : GoodIn wsX6_length (wsV RX6 50 RX6 yX6_in wsX6_in) := goodIn_app (goodIn_of _ (by decide +kernel)) ggX6_length_X6_in
set_option maxRecDepth 20000 in
theorem ggX6_length_X6_isThing : GoodIn wsX6_length wsX6_isThing := goodIn_r _ [13, 14, 15, 16, 4, 17, 18, 23, 24, 25, 26, 27, 28, 29, 30, 31, 32] (by decide +kernel) (by decide +kernel)
set_option maxRecDepth 20000 in
theorem gX6_length_X6_isThing : GoodIn wsX6_length (wsV RX6 53 RX6 yX6_isThing wsX6_isThing) := goodIn_app (goodIn_of _ (by decide +kernel)) ggX6_length_X6_isThing
set_option maxRecDepth 20000 in
theorem ggX6_length_X6_low : GoodIn wsX6_length wsX6_low := goodIn_r _ [22, 18, 23, 24, 25, 26, 27, 28, 29, 30, 31, 32] (by decide +kernel) (by decide +kernel)
set_option maxRecDepth 20000 in
theorem gX6_length_X6_low : GoodIn wsX6_length (wsV RX6 29 RX6 yX6_low wsX6_low) := goodIn_app (goodIn_of _ (by decide +kernel)) ggX6_length_X6_low
theorem dX6_length_0 : decode cX6_length 0 = .ok (.aload_n 0, 1) := by decide +kernel
theorem dX6_length_1 : decode cX6_length 1 = .ok (.iload_n 1, 1) := by decide +kernel
theorem dX6_length_2 : decode cX6_length 2 = .ok (.invokevirtual 50, 3) := by decide +kernel
theorem dX6_length_5 : decode cX6_length 5 = .ok (.istore_n 2, 1) := by decide +kernel
theorem dX6_length_6 : decode cX6_length 6 = .ok (.iload_n 2, 1) := by decide +kernel
theorem dX6_length_7 : decode cX6_length 7 = .ok (.ifCond .ge 5, 3) := by decide +kernel
theorem dX6_length_10 : decode cX6_length 10 = .ok (.iconst (-1), 1) := by decide +kernel
theorem dX6_length_11 : decode cX6_length 11 = .ok (.ireturn, 1) := by decide +kernel
theorem dX6_length_12 : decode cX6_length 12 = .ok (.aload_n 0, 1) := by decide +kernel
theorem dX6_length_13 : decode cX6_length 13 = .ok (.iload_n 2, 1) := by decide +kernel
theorem dX6_length_14 : decode cX6_length 14 = .ok (.invokevirtual 53, 3) := by decide +kernel
theorem dX6_length_17 : decode cX6_length 17 = .ok (.ifCond .eq 8, 3) := by decide +kernel
theorem dX6_length_20 : decode cX6_length 20 = .ok (.bipush (-2), 2) := by decide +kernel
theorem dX6_length_22 : decode cX6_length 22 = .ok (.goto 8, 3) := by decide +kernel
theorem dX6_length_25 : decode cX6_length 25 = .ok (.aload_n 0, 1) := by decide +kernel
theorem dX6_length_26 : decode cX6_length 26 = .ok (.iload_n 2, 1) := by decide +kernel
theorem dX6_length_27 : decode cX6_length 27 = .ok (.invokevirtual 29, 3) := by decide +kernel
theorem dX6_length_30 : decode cX6_length 30 = .ok (.ireturn, 1) := by decide +kernel
theorem dX6_rounded_0 : decode cX6_rounded 0 = .ok (.lload_n 0, 1) := by decide +kernel
theorem dX6_rounded_1 : decode cX6_rounded 1 = .ok (.ldc2_w 56, 3) := by decide +kernel
theorem dX6_rounded_4 : decode cX6_rounded 4 = .ok (.lcmp, 1) := by decide +kernel
theorem dX6_rounded_5 : decode cX6_rounded 5 = .ok (.ifCond .le 11, 3) := by decide +kernel
theorem dX6_rounded_8 : decode cX6_rounded 8 = .ok (.lload_n 0, 1) := by decide +kernel
theorem dX6_rounded_9 : decode cX6_rounded 9 = .ok (.ldc2_w 58, 3) := by decide +kernel
theorem dX6_rounded_12 : decode cX6_rounded 12 = .ok (.lcmp, 1) := by decide +kernel
theorem dX6_rounded_13 : decode cX6_rounded 13 = .ok (.ifCond .lt 11, 3) := by decide +kernel
theorem dX6_rounded_16 : decode cX6_rounded 16 = .ok (.lload_n 0, 1) := by decide +kernel
theorem dX6_rounded_17 : decode cX6_rounded 17 = .ok (.ldc2_w 60, 3) := by decide +kernel
theorem dX6_rounded_20 : decode cX6_rounded 20 = .ok (.lcmp, 1) := by decide +kernel
theorem dX6_rounded_21 : decode cX6_rounded 21 = .ok (.ifCond .ne 5, 3) := by decide +kernel
theorem dX6_rounded_24 : decode cX6_rounded 24 = .ok (.lload_n 0, 1) := by decide +kernel
theorem dX6_rounded_25 : decode cX6_rounded 25 = .ok (.lreturn, 1) := by decide +kernel
theorem dX6_rounded_26 : decode cX6_rounded 26 = .ok (.lload_n 0, 1) := by decide +kernel
theorem dX6_rounded_27 : decode cX6_rounded 27 = .ok (.lconst 0, 1) := by decide +kernel
theorem dX6_rounded_28 : decode cX6_rounded 28 = .ok (.lcmp, 1) := by decide +kernel
theorem dX6_rounded_29 : decode cX6_rounded 29 = .ok (.ifCond .ge 8, 3) := by decide +kernel
theorem dX6_rounded_32 : decode cX6_rounded 32 = .ok (.lload_n 0, 1) := by decide +kernel
theorem dX6_rounded_33 : decode cX6_rounded 33 = .ok (.lneg, 1) := by decide +kernel
theorem dX6_rounded_34 : decode cX6_rounded 34 = .ok (.goto 4, 3) := by decide +kernel
theorem dX6_rounded_37 : decode cX6_rounded 37 = .ok (.lload_n 0, 1) := by decide +kernel
theorem dX6_rounded_38 : decode cX6_rounded 38 = .ok (.lstore_n 2, 1) := by decide +kernel
theorem dX6_rounded_39 : decode cX6_rounded 39 = .ok (.iconst 0, 1) := by decide +kernel
theorem dX6_rounded_40 : decode cX6_rounded 40 = .ok (.istore 4, 2) := by decide +kernel
theorem dX6_rounded_42 : decode cX6_rounded 42 = .ok (.lload_n 2, 1) := by decide +kernel
theorem dX6_rounded_43 : decode cX6_rounded 43 = .ok (.iload 4, 2) := by decide +kernel
theorem dX6_rounded_45 : decode cX6_rounded 45 = .ok (.lshr, 1) := by decide +kernel
theorem dX6_rounded_46 : decode cX6_rounded 46 = .ok (.ldc2_w 62, 3) := by decide +kernel
theorem dX6_rounded_49 : decode cX6_rounded 49 = .ok (.lcmp, 1) := by decide +kernel
theorem dX6_rounded_50 : decode cX6_rounded 50 = .ok (.ifCond .le 9, 3) := by decide +kernel
theorem dX6_rounded_53 : decode cX6_rounded 53 = .ok (.iinc 4 1, 3) := by decide +kernel
theorem dX6_rounded_56 : decode cX6_rounded 56 = .ok (.goto (-14), 3) := by decide +kernel
theorem dX6_rounded_59 : decode cX6_rounded 59 = .ok (.lload_n 2, 1) := by decide +kernel
theorem dX6_rounded_60 : decode cX6_rounded 60 = .ok (.lconst 1, 1) := by decide +kernel
theorem dX6_rounded_61 : decode cX6_rounded 61 = .ok (.iload 4, 2) := by decide +kernel
theorem dX6_rounded_63 : decode cX6_rounded 63 = .ok (.lshl, 1) := by decide +kernel
theorem dX6_rounded_64 : decode cX6_rounded 64 = .ok (.lconst 1, 1) := by decide +kernel
theorem dX6_rounded_65 : decode cX6_rounded 65 = .ok (.lsub, 1) := by decide +kernel
theorem dX6_rounded_66 : decode cX6_rounded 66 = .ok (.land, 1) := by decide +kernel
theorem dX6_rounded_67 : decode cX6_rounded 67 = .ok (.lstore 5, 2) := by decide +kernel
theorem dX6_rounded_69 : decode cX6_rounded 69 = .ok (.lconst 1, 1) := by decide +kernel
theorem dX6_rounded_70 : decode cX6_rounded 70 = .ok (.iload 4, 2) := by decide +kernel
theorem dX6_rounded_72 : decode cX6_rounded 72 = .ok (.iconst 1, 1) := by decide +kernel
theorem dX6_rounded_73 : decode cX6_rounded 73 = .ok (.isub, 1) := by decide +kernel
theorem dX6_rounded_74 : decode cX6_rounded 74 = .ok (.lshl, 1) := by decide +kernel
theorem dX6_rounded_75 : decode cX6_rounded 75 = .ok (.lstore 7, 2) := by decide +kernel
theorem dX6_rounded_77 : decode cX6_rounded 77 = .ok (.lload_n 2, 1) := by decide +kernel
theorem dX6_rounded_78 : decode cX6_rounded 78 = .ok (.iload 4, 2) := by decide +kernel
theorem dX6_rounded_80 : decode cX6_rounded 80 = .ok (.lshr, 1) := by decide +kernel
theorem dX6_rounded_81 : decode cX6_rounded 81 = .ok (.lstore 9, 2) := by decide +kernel
theorem dX6_rounded_83 : decode cX6_rounded 83 = .ok (.lload 5, 2) := by decide +kernel
theorem dX6_rounded_85 : decode cX6_rounded 85 = .ok (.lload 7, 2) := by decide +kernel
theorem dX6_rounded_87 : decode cX6_rounded 87 = .ok (.lcmp, 1) := by decide +kernel
theorem dX6_rounded_88 : decode cX6_rounded 88 = .ok (.ifCond .gt 20, 3) := by decide +kernel
theorem dX6_rounded_91 : decode cX6_rounded 91 = .ok (.lload 5, 2) := by decide +kernel
theorem dX6_rounded_93 : decode cX6_rounded 93 = .ok (.lload 7, 2) := by decide +kernel
theorem dX6_rounded_95 : decode cX6_rounded 95 = .ok (.lcmp, 1) := by decide +kernel
theorem dX6_rounded_96 : decode cX6_rounded 96 = .ok (.ifCond .ne 18, 3) := by decide +kernel
theorem dX6_rounded_99 : decode cX6_rounded 99 = .ok (.lload 9, 2) := by decide +kernel
theorem dX6_rounded_101 : decode cX6_rounded 101 = .ok (.lconst 1, 1) := by decide +kernel
theorem dX6_rounded_102 : decode cX6_rounded 102 = .ok (.land, 1) := by decide +kernel
theorem dX6_rounded_103 : decode cX6_rounded 103 = .ok (.lconst 1, 1) := by decide +kernel
theorem dX6_rounded_104 : decode cX6_rounded 104 = .ok (.lcmp, 1) := by decide +kernel
theorem dX6_rounded_105 : decode cX6_rounded 105 = .ok (.ifCond .ne 9, 3) := by decide +kernel
theorem dX6_rounded_108 : decode cX6_rounded 108 = .ok (.lload 9, 2) := by decide +kernel
theorem dX6_rounded_110 : decode cX6_rounded 110 = .ok (.lconst 1, 1) := by decide +kernel
theorem dX6_rounded_111 : decode cX6_rounded 111 = .ok (.ladd, 1) := by decide +kernel
theorem dX6_rounded_112 : decode cX6_rounded 112 = .ok (.lstore 9, 2) := by decide +kernel
theorem dX6_rounded_114 : decode cX6_rounded 114 = .ok (.lload 9, 2) := by decide +kernel
theorem dX6_rounded_116 : decode cX6_rounded 116 = .ok (.iload 4, 2) := by decide +kernel
theorem dX6_rounded_118 : decode cX6_rounded 118 = .ok (.lshl, 1) := by decide +kernel
theorem dX6_rounded_119 : decode cX6_rounded 119 = .ok (.lstore 11, 2) := by decide +kernel
theorem dX6_rounded_121 : decode cX6_rounded 121 = .ok (.lload_n 0, 1) := by decide +kernel
theorem dX6_rounded_122 : decode cX6_rounded 122 = .ok (.lconst 0, 1) := by decide +kernel
theorem dX6_rounded_123 : decode cX6_rounded 123 = .ok (.lcmp, 1) := by decide +kernel
theorem dX6_rounded_124 : decode cX6_rounded 124 = .ok (.ifCond .ge 7, 3) := by decide +kernel
theorem dX6_rounded_127 : decode cX6_rounded 127 = .ok (.lload 11, 2) := by decide +kernel
theorem dX6_rounded_129 : decode cX6_rounded 129 = .ok (.lneg, 1) := by decide +kernel
theorem dX6_rounded_130 : decode cX6_rounded 130 = .ok (.lreturn, 1) := by decide +kernel
theorem dX6_rounded_131 : decode cX6_rounded 131 = .ok (.lload 11, 2) := by decide +kernel
theorem dX6_rounded_133 : decode cX6_rounded 133 = .ok (.lconst 0, 1) := by decide +kernel
theorem dX6_rounded_134 : decode cX6_rounded 134 = .ok (.lcmp, 1) := by decide +kernel
theorem dX6_rounded_135 : decode cX6_rounded 135 = .ok (.ifCond .ge 9, 3) := by decide +kernel
theorem dX6_rounded_138 : decode cX6_rounded 138 = .ok (.ldc2_w 64, 3) := by decide +kernel
theorem dX6_rounded_141 : decode cX6_rounded 141 = .ok (.goto 5, 3) := by decide +kernel
theorem dX6_rounded_144 : decode cX6_rounded 144 = .ok (.lload 11, 2) := by decide +kernel
theorem dX6_rounded_146 : decode cX6_rounded 146 = .ok (.lreturn, 1) := by decide +kernel
set_option maxRecDepth 20000 in
theorem ggX6_fitted_X6_rounded : GoodIn wsX6_fitted wsX6_rounded := goodIn_r _ [4, 5, 6, 7, 8, 9] (by decide +kernel) (by decide +kernel)
set_option maxRecDepth 20000 in
theorem gX6_fitted_X6_rounded : GoodIn wsX6_fitted (va_wsS RX6 66 yX6_rounded wsX6_rounded) := goodIn_app (goodIn_of _ (by decide +kernel)) ggX6_fitted_X6_rounded
theorem dX6_fitted_0 : decode cX6_fitted 0 = .ok (.iload_n 0, 1) := by decide +kernel
theorem dX6_fitted_1 : decode cX6_fitted 1 = .ok (.tableswitch 38 0 2 #[27, 31, 33], 27) := by decide +kernel
theorem dX6_fitted_28 : decode cX6_fitted 28 = .ok (.lload_n 1, 1) := by decide +kernel
theorem dX6_fitted_29 : decode cX6_fitted 29 = .ok (.l2i, 1) := by decide +kernel
theorem dX6_fitted_30 : decode cX6_fitted 30 = .ok (.i2l, 1) := by decide +kernel
theorem dX6_fitted_31 : decode cX6_fitted 31 = .ok (.lreturn, 1) := by decide +kernel
theorem dX6_fitted_32 : decode cX6_fitted 32 = .ok (.lload_n 1, 1) := by decide +kernel
theorem dX6_fitted_33 : decode cX6_fitted 33 = .ok (.lreturn, 1) := by decide +kernel
theorem dX6_fitted_34 : decode cX6_fitted 34 = .ok (.lload_n 1, 1) := by decide +kernel
theorem dX6_fitted_35 : decode cX6_fitted 35 = .ok (.l2i, 1) := by decide +kernel
theorem dX6_fitted_36 : decode cX6_fitted 36 = .ok (.i2b, 1) := by decide +kernel
theorem dX6_fitted_37 : decode cX6_fitted 37 = .ok (.i2l, 1) := by decide +kernel
theorem dX6_fitted_38 : decode cX6_fitted 38 = .ok (.lreturn, 1) := by decide +kernel
theorem dX6_fitted_39 : decode cX6_fitted 39 = .ok (.lload_n 1, 1) := by decide +kernel
theorem dX6_fitted_40 : decode cX6_fitted 40 = .ok (.invokestatic 66, 3) := by decide +kernel
theorem dX6_fitted_43 : decode cX6_fitted 43 = .ok (.lreturn, 1) := by decide +kernel
set_option maxRecDepth 20000 in
theorem ggX6_set_X6_in : GoodIn wsX6_set wsX6_in := goodIn_r _ [6, 7, 8, 9, 5, 10, 42, 43, 44, 45, 46, 47, 48, 49, 50, 51] (by decide +kernel) (by decide +kernel)
set_option maxRecDepth 20000 in
theorem gX6_set_X6_in : GoodIn wsX6_set (wsV RX6 50 RX6 yX6_in wsX6_in) := goodIn_app (goodIn_of _ (by decide +kernel)) ggX6_set_X6_in
set_option maxRecDepth 20000 in
theorem ggX6_set_X6_isThing : GoodIn wsX6_set wsX6_isThing := goodIn_r _ [14, 15, 16, 17, 5, 18, 1, 42, 43, 44, 45, 46, 47, 48, 49, 50, 51] (by decide +kernel) (by decide +kernel)
set_option maxRecDepth 20000 in
theorem gX6_set_X6_isThing : GoodIn wsX6_set (wsV RX6 53 RX6 yX6_isThing wsX6_isThing) := goodIn_app (goodIn_of _ (by decide +kernel)) ggX6_set_X6_isThing
set_option maxRecDepth 20000 in
theorem ggX6_set_X6_isOfObjects : GoodIn wsX6_set wsX6_isOfObjects := goodIn_r _ [22, 15, 16, 17, 5, 18, 1, 42, 43, 44, 45, 46, 47, 48, 49, 50, 51] (by decide +kernel) (by decide +kernel)
set_option maxRecDepth 20000 in
theorem gX6_set_X6_isOfObjects : GoodIn wsX6_set (wsV RX6 70 RX6 yX6_isOfObjects wsX6_isOfObjects) := goodIn_app (goodIn_of _ (by decide +kernel)) ggX6_set_X6_isOfObjects
set_option maxRecDepth 20000 in
theorem ggX6_set_X6_isElement : GoodIn wsX6_set wsX6_isElement := goodIn_r _ [26, 27, 28, 29, 5, 30, 1, 42, 43, 44, 45, 46, 47, 48, 49, 50, 51] (by decide +kernel) (by decide +kernel)
set_option maxRecDepth 20000 in
theorem gX6_set_X6_isElement : GoodIn wsX6_set (wsV RX6 73 RX6 yX6_isElement wsX6_isElement) := goodIn_app (goodIn_of _ (by decide +kernel)) ggX6_set_X6_isElement
set_option maxRecDepth 20000 in
theorem ggX6_set_X6_kind : GoodIn wsX6_set wsX6_kind := goodIn_r _ [18, 1, 42, 43, 44, 45, 46, 47, 48, 49, 50, 51] (by decide +kernel) (by decide +kernel)
set_option maxRecDepth 20000 in
theorem gX6_set_X6_kind : GoodIn wsX6_set (wsV RX6 25 RX6 yX6_kind wsX6_kind) := goodIn_app (goodIn_of _ (by decide +kernel)) ggX6_set_X6_kind
set_option maxRecDepth 20000 in
theorem ggX6_set_X6_fitted : GoodIn wsX6_set wsX6_fitted := goodIn_r _ [33, 34, 35, 5, 36, 37, 38, 39, 40, 41] (by decide +kernel) (by decide +kernel)
set_option maxRecDepth 20000 in
theorem gX6_set_X6_fitted : GoodIn wsX6_set (va_wsS RX6 77 yX6_fitted wsX6_fitted) := goodIn_app (goodIn_of _ (by decide +kernel)) ggX6_set_X6_fitted
theorem dX6_set_0 : decode cX6_set 0 = .ok (.aload_n 0, 1) := by decide +kernel
theorem dX6_set_1 : decode cX6_set 1 = .ok (.iload_n 1, 1) := by decide +kernel
theorem dX6_set_2 : decode cX6_set 2 = .ok (.invokevirtual 50, 3) := by decide +kernel
theorem dX6_set_5 : decode cX6_set 5 = .ok (.istore 5, 2) := by decide +kernel
theorem dX6_set_7 : decode cX6_set 7 = .ok (.iload 5, 2) := by decide +kernel
theorem dX6_set_9 : decode cX6_set 9 = .ok (.ifCond .ge 5, 3) := by decide +kernel
theorem dX6_set_12 : decode cX6_set 12 = .ok (.iconst 1, 1) := by decide +kernel
theorem dX6_set_13 : decode cX6_set 13 = .ok (.ireturn, 1) := by decide +kernel
theorem dX6_set_14 : decode cX6_set 14 = .ok (.aload_n 0, 1) := by decide +kernel
theorem dX6_set_15 : decode cX6_set 15 = .ok (.iload 5, 2) := by decide +kernel
theorem dX6_set_17 : decode cX6_set 17 = .ok (.invokevirtual 53, 3) := by decide +kernel
theorem dX6_set_20 : decode cX6_set 20 = .ok (.ifCond .eq 5, 3) := by decide +kernel
theorem dX6_set_23 : decode cX6_set 23 = .ok (.iconst 2, 1) := by decide +kernel
theorem dX6_set_24 : decode cX6_set 24 = .ok (.ireturn, 1) := by decide +kernel
theorem dX6_set_25 : decode cX6_set 25 = .ok (.aload_n 0, 1) := by decide +kernel
theorem dX6_set_26 : decode cX6_set 26 = .ok (.iload 5, 2) := by decide +kernel
theorem dX6_set_28 : decode cX6_set 28 = .ok (.invokevirtual 70, 3) := by decide +kernel
theorem dX6_set_31 : decode cX6_set 31 = .ok (.ifCond .eq 5, 3) := by decide +kernel
theorem dX6_set_34 : decode cX6_set 34 = .ok (.iconst 3, 1) := by decide +kernel
theorem dX6_set_35 : decode cX6_set 35 = .ok (.ireturn, 1) := by decide +kernel
theorem dX6_set_36 : decode cX6_set 36 = .ok (.aload_n 0, 1) := by decide +kernel
theorem dX6_set_37 : decode cX6_set 37 = .ok (.iload 5, 2) := by decide +kernel
theorem dX6_set_39 : decode cX6_set 39 = .ok (.iload_n 2, 1) := by decide +kernel
theorem dX6_set_40 : decode cX6_set 40 = .ok (.invokevirtual 73, 3) := by decide +kernel
theorem dX6_set_43 : decode cX6_set 43 = .ok (.ifCond .ne 5, 3) := by decide +kernel
theorem dX6_set_46 : decode cX6_set 46 = .ok (.iconst 4, 1) := by decide +kernel
theorem dX6_set_47 : decode cX6_set 47 = .ok (.ireturn, 1) := by decide +kernel
theorem dX6_set_48 : decode cX6_set 48 = .ok (.aload_n 0, 1) := by decide +kernel
theorem dX6_set_49 : decode cX6_set 49 = .ok (.getfield 8, 3) := by decide +kernel
theorem dX6_set_52 : decode cX6_set 52 = .ok (.iload 5, 2) := by decide +kernel
theorem dX6_set_54 : decode cX6_set 54 = .ok (.iconst 1, 1) := by decide +kernel
theorem dX6_set_55 : decode cX6_set 55 = .ok (.iadd, 1) := by decide +kernel
theorem dX6_set_56 : decode cX6_set 56 = .ok (.iload_n 2, 1) := by decide +kernel
theorem dX6_set_57 : decode cX6_set 57 = .ok (.iadd, 1) := by decide +kernel
theorem dX6_set_58 : decode cX6_set 58 = .ok (.aload_n 0, 1) := by decide +kernel
theorem dX6_set_59 : decode cX6_set 59 = .ok (.iload 5, 2) := by decide +kernel
theorem dX6_set_61 : decode cX6_set 61 = .ok (.invokevirtual 25, 3) := by decide +kernel
theorem dX6_set_64 : decode cX6_set 64 = .ok (.lload_n 3, 1) := by decide +kernel
theorem dX6_set_65 : decode cX6_set 65 = .ok (.invokestatic 77, 3) := by decide +kernel
theorem dX6_set_68 : decode cX6_set 68 = .ok (.lastore, 1) := by decide +kernel
theorem dX6_set_69 : decode cX6_set 69 = .ok (.iconst 0, 1) := by decide +kernel
theorem dX6_set_70 : decode cX6_set 70 = .ok (.ireturn, 1) := by decide +kernel
set_option maxRecDepth 20000 in
theorem ggX6_fits_X6_kind : GoodIn wsX6_fits wsX6_kind := goodIn_r _ [5, 6, 7, 8, 9, 10, 11, 12, 13, 14, 15, 16] (by decide +kernel) (by decide +kernel)
set_option maxRecDepth 20000 in
theorem gX6_fits_X6_kind : GoodIn wsX6_fits (wsV RX6 25 RX6 yX6_kind wsX6_kind) := goodIn_app (goodIn_of _ (by decide +kernel)) ggX6_fits_X6_kind
theorem dX6_fits_0 : decode cX6_fits 0 = .ok (.iload_n 1, 1) := by decide +kernel
theorem dX6_fits_1 : decode cX6_fits 1 = .ok (.ifCond .ge 5, 3) := by decide +kernel
theorem dX6_fits_4 : decode cX6_fits 4 = .ok (.iconst 1, 1) := by decide +kernel
theorem dX6_fits_5 : decode cX6_fits 5 = .ok (.ireturn, 1) := by decide +kernel
theorem dX6_fits_6 : decode cX6_fits 6 = .ok (.aload_n 0, 1) := by decide +kernel
theorem dX6_fits_7 : decode cX6_fits 7 = .ok (.iload_n 1, 1) := by decide +kernel
theorem dX6_fits_8 : decode cX6_fits 8 = .ok (.invokevirtual 25, 3) := by decide +kernel
theorem dX6_fits_11 : decode cX6_fits 11 = .ok (.istore_n 3, 1) := by decide +kernel
theorem dX6_fits_12 : decode cX6_fits 12 = .ok (.iload_n 2, 1) := by decide +kernel
theorem dX6_fits_13 : decode cX6_fits 13 = .ok (.iconst 4, 1) := by decide +kernel
theorem dX6_fits_14 : decode cX6_fits 14 = .ok (.if_icmp .ne 15, 3) := by decide +kernel
theorem dX6_fits_17 : decode cX6_fits 17 = .ok (.iload_n 3, 1) := by decide +kernel
theorem dX6_fits_18 : decode cX6_fits 18 = .ok (.ifCond .ne 7, 3) := by decide +kernel
theorem dX6_fits_21 : decode cX6_fits 21 = .ok (.iconst 1, 1) := by decide +kernel
theorem dX6_fits_22 : decode cX6_fits 22 = .ok (.goto 37, 3) := by decide +kernel
theorem dX6_fits_25 : decode cX6_fits 25 = .ok (.iconst 0, 1) := by decide +kernel
theorem dX6_fits_26 : decode cX6_fits 26 = .ok (.goto 33, 3) := by decide +kernel
theorem dX6_fits_29 : decode cX6_fits 29 = .ok (.iload_n 2, 1) := by decide +kernel
theorem dX6_fits_30 : decode cX6_fits 30 = .ok (.iconst 5, 1) := by decide +kernel
theorem dX6_fits_31 : decode cX6_fits 31 = .ok (.if_icmp .ne 17, 3) := by decide +kernel
theorem dX6_fits_34 : decode cX6_fits 34 = .ok (.iload_n 3, 1) := by decide +kernel
theorem dX6_fits_35 : decode cX6_fits 35 = .ok (.bipush 7, 2) := by decide +kernel
theorem dX6_fits_37 : decode cX6_fits 37 = .ok (.if_icmp .lt 7, 3) := by decide +kernel
theorem dX6_fits_40 : decode cX6_fits 40 = .ok (.iconst 1, 1) := by decide +kernel
theorem dX6_fits_41 : decode cX6_fits 41 = .ok (.goto 18, 3) := by decide +kernel
theorem dX6_fits_44 : decode cX6_fits 44 = .ok (.iconst 0, 1) := by decide +kernel
theorem dX6_fits_45 : decode cX6_fits 45 = .ok (.goto 14, 3) := by decide +kernel
theorem dX6_fits_48 : decode cX6_fits 48 = .ok (.iload_n 3, 1) := by decide +kernel
theorem dX6_fits_49 : decode cX6_fits 49 = .ok (.bipush 8, 2) := by decide +kernel
theorem dX6_fits_51 : decode cX6_fits 51 = .ok (.if_icmp .ne 7, 3) := by decide +kernel
theorem dX6_fits_54 : decode cX6_fits 54 = .ok (.iconst 1, 1) := by decide +kernel
theorem dX6_fits_55 : decode cX6_fits 55 = .ok (.goto 4, 3) := by decide +kernel
theorem dX6_fits_58 : decode cX6_fits 58 = .ok (.iconst 0, 1) := by decide +kernel
theorem dX6_fits_59 : decode cX6_fits 59 = .ok (.ireturn, 1) := by decide +kernel
set_option maxRecDepth 20000 in
theorem ggX6_setThing_X6_in : GoodIn wsX6_setThing wsX6_in := goodIn_r _ [6, 7, 8, 9, 5, 10, 35, 36, 37, 38, 39, 40, 41, 42, 43, 44] (by decide +kernel) (by decide +kernel)
set_option maxRecDepth 20000 in
theorem gX6_setThing_X6_in : GoodIn wsX6_setThing (wsV RX6 50 RX6 yX6_in wsX6_in) := goodIn_app (goodIn_of _ (by decide +kernel)) ggX6_setThing_X6_in
set_option maxRecDepth 20000 in
theorem ggX6_setThing_X6_isThing : GoodIn wsX6_setThing wsX6_isThing := goodIn_r _ [14, 15, 16, 17, 5, 18, 1, 35, 36, 37, 38, 39, 40, 41, 42, 43, 44] (by decide +kernel) (by decide +kernel)
set_option maxRecDepth 20000 in
theorem gX6_setThing_X6_isThing : GoodIn wsX6_setThing (wsV RX6 53 RX6 yX6_isThing wsX6_isThing) := goodIn_app (goodIn_of _ (by decide +kernel)) ggX6_setThing_X6_isThing
set_option maxRecDepth 20000 in
theorem ggX6_setThing_X6_isOfObjects : GoodIn wsX6_setThing wsX6_isOfObjects := goodIn_r _ [22, 15, 16, 17, 5, 18, 1, 35, 36, 37, 38, 39, 40, 41, 42, 43, 44] (by decide +kernel) (by decide +kernel)
set_option maxRecDepth 20000 in
theorem gX6_setThing_X6_isOfObjects : GoodIn wsX6_setThing (wsV RX6 70 RX6 yX6_isOfObjects wsX6_isOfObjects) := goodIn_app (goodIn_of _ (by decide +kernel)) ggX6_setThing_X6_isOfObjects
set_option maxRecDepth 20000 in
theorem ggX6_setThing_X6_isElement : GoodIn wsX6_setThing wsX6_isElement := goodIn_r _ [26, 27, 28, 29, 5, 30, 1, 35, 36, 37, 38, 39, 40, 41, 42, 43, 44] (by decide +kernel) (by decide +kernel)
set_option maxRecDepth 20000 in
theorem gX6_setThing_X6_isElement : GoodIn wsX6_setThing (wsV RX6 73 RX6 yX6_isElement wsX6_isElement) := goodIn_app (goodIn_of _ (by decide +kernel)) ggX6_setThing_X6_isElement
set_option maxRecDepth 20000 in
theorem ggX6_setThing_X6_kind : GoodIn wsX6_setThing wsX6_kind := goodIn_r _ [18, 1, 35, 36, 37, 38, 39, 40, 41, 42, 43, 44] (by decide +kernel) (by decide +kernel)
set_option maxRecDepth 20000 in
theorem gX6_setThing_X6_kind : GoodIn wsX6_setThing (wsV RX6 25 RX6 yX6_kind wsX6_kind) := goodIn_app (goodIn_of _ (by decide +kernel)) ggX6_setThing_X6_kind
set_option maxRecDepth 20000 in
theorem ggX6_setThing_X6_fits : GoodIn wsX6_setThing wsX6_fits := goodIn_r _ [34, 15, 16, 17, 5, 18, 1, 35, 36, 37, 38, 39, 40, 41, 42, 43, 44] (by decide +kernel) (by decide +kernel)
set_option maxRecDepth 20000 in
theorem gX6_setThing_X6_fits : GoodIn wsX6_setThing (wsV RX6 81 RX6 yX6_fits wsX6_fits) := goodIn_app (goodIn_of _ (by decide +kernel)) ggX6_setThing_X6_fits
theorem dX6_setThing_0 : decode cX6_setThing 0 = .ok (.aload_n 0, 1) := by decide +kernel
theorem dX6_setThing_1 : decode cX6_setThing 1 = .ok (.iload_n 1, 1) := by decide +kernel
theorem dX6_setThing_2 : decode cX6_setThing 2 = .ok (.invokevirtual 50, 3) := by decide +kernel
theorem dX6_setThing_5 : decode cX6_setThing 5 = .ok (.istore 4, 2) := by decide +kernel
theorem dX6_setThing_7 : decode cX6_setThing 7 = .ok (.aload_n 0, 1) := by decide +kernel
theorem dX6_setThing_8 : decode cX6_setThing 8 = .ok (.iload_n 3, 1) := by decide +kernel
theorem dX6_setThing_9 : decode cX6_setThing 9 = .ok (.invokevirtual 50, 3) := by decide +kernel
theorem dX6_setThing_12 : decode cX6_setThing 12 = .ok (.istore 5, 2) := by decide +kernel
theorem dX6_setThing_14 : decode cX6_setThing 14 = .ok (.iload 4, 2) := by decide +kernel
theorem dX6_setThing_16 : decode cX6_setThing 16 = .ok (.ifCond .lt 13, 3) := by decide +kernel
theorem dX6_setThing_19 : decode cX6_setThing 19 = .ok (.iload 5, 2) := by decide +kernel
theorem dX6_setThing_21 : decode cX6_setThing 21 = .ok (.ifCond .ge 10, 3) := by decide +kernel
theorem dX6_setThing_24 : decode cX6_setThing 24 = .ok (.iload_n 3, 1) := by decide +kernel
theorem dX6_setThing_25 : decode cX6_setThing 25 = .ok (.iconst (-1), 1) := by decide +kernel
theorem dX6_setThing_26 : decode cX6_setThing 26 = .ok (.if_icmp .eq 5, 3) := by decide +kernel
theorem dX6_setThing_29 : decode cX6_setThing 29 = .ok (.iconst 1, 1) := by decide +kernel
theorem dX6_setThing_30 : decode cX6_setThing 30 = .ok (.ireturn, 1) := by decide +kernel
theorem dX6_setThing_31 : decode cX6_setThing 31 = .ok (.aload_n 0, 1) := by decide +kernel
theorem dX6_setThing_32 : decode cX6_setThing 32 = .ok (.iload 4, 2) := by decide +kernel
theorem dX6_setThing_34 : decode cX6_setThing 34 = .ok (.invokevirtual 53, 3) := by decide +kernel
theorem dX6_setThing_37 : decode cX6_setThing 37 = .ok (.ifCond .eq 5, 3) := by decide +kernel
theorem dX6_setThing_40 : decode cX6_setThing 40 = .ok (.iconst 2, 1) := by decide +kernel
theorem dX6_setThing_41 : decode cX6_setThing 41 = .ok (.ireturn, 1) := by decide +kernel
theorem dX6_setThing_42 : decode cX6_setThing 42 = .ok (.aload_n 0, 1) := by decide +kernel
theorem dX6_setThing_43 : decode cX6_setThing 43 = .ok (.iload 4, 2) := by decide +kernel
theorem dX6_setThing_45 : decode cX6_setThing 45 = .ok (.invokevirtual 70, 3) := by decide +kernel
theorem dX6_setThing_48 : decode cX6_setThing 48 = .ok (.ifCond .ne 5, 3) := by decide +kernel
theorem dX6_setThing_51 : decode cX6_setThing 51 = .ok (.iconst 3, 1) := by decide +kernel
theorem dX6_setThing_52 : decode cX6_setThing 52 = .ok (.ireturn, 1) := by decide +kernel
theorem dX6_setThing_53 : decode cX6_setThing 53 = .ok (.aload_n 0, 1) := by decide +kernel
theorem dX6_setThing_54 : decode cX6_setThing 54 = .ok (.iload 4, 2) := by decide +kernel
theorem dX6_setThing_56 : decode cX6_setThing 56 = .ok (.iload_n 2, 1) := by decide +kernel
theorem dX6_setThing_57 : decode cX6_setThing 57 = .ok (.invokevirtual 73, 3) := by decide +kernel
theorem dX6_setThing_60 : decode cX6_setThing 60 = .ok (.ifCond .ne 5, 3) := by decide +kernel
theorem dX6_setThing_63 : decode cX6_setThing 63 = .ok (.iconst 4, 1) := by decide +kernel
theorem dX6_setThing_64 : decode cX6_setThing 64 = .ok (.ireturn, 1) := by decide +kernel
theorem dX6_setThing_65 : decode cX6_setThing 65 = .ok (.aload_n 0, 1) := by decide +kernel
theorem dX6_setThing_66 : decode cX6_setThing 66 = .ok (.iload 5, 2) := by decide +kernel
theorem dX6_setThing_68 : decode cX6_setThing 68 = .ok (.aload_n 0, 1) := by decide +kernel
theorem dX6_setThing_69 : decode cX6_setThing 69 = .ok (.iload 4, 2) := by decide +kernel
theorem dX6_setThing_71 : decode cX6_setThing 71 = .ok (.invokevirtual 25, 3) := by decide +kernel
theorem dX6_setThing_74 : decode cX6_setThing 74 = .ok (.invokevirtual 81, 3) := by decide +kernel
theorem dX6_setThing_77 : decode cX6_setThing 77 = .ok (.ifCond .ne 5, 3) := by decide +kernel
theorem dX6_setThing_80 : decode cX6_setThing 80 = .ok (.iconst 5, 1) := by decide +kernel
theorem dX6_setThing_81 : decode cX6_setThing 81 = .ok (.ireturn, 1) := by decide +kernel
theorem dX6_setThing_82 : decode cX6_setThing 82 = .ok (.aload_n 0, 1) := by decide +kernel
theorem dX6_setThing_83 : decode cX6_setThing 83 = .ok (.getfield 8, 3) := by decide +kernel
theorem dX6_setThing_86 : decode cX6_setThing 86 = .ok (.iload 4, 2) := by decide +kernel
theorem dX6_setThing_88 : decode cX6_setThing 88 = .ok (.iconst 1, 1) := by decide +kernel
theorem dX6_setThing_89 : decode cX6_setThing 89 = .ok (.iadd, 1) := by decide +kernel
theorem dX6_setThing_90 : decode cX6_setThing 90 = .ok (.iload_n 2, 1) := by decide +kernel
theorem dX6_setThing_91 : decode cX6_setThing 91 = .ok (.iadd, 1) := by decide +kernel
theorem dX6_setThing_92 : decode cX6_setThing 92 = .ok (.iload 5, 2) := by decide +kernel
theorem dX6_setThing_94 : decode cX6_setThing 94 = .ok (.i2l, 1) := by decide +kernel
theorem dX6_setThing_95 : decode cX6_setThing 95 = .ok (.lconst 1, 1) := by decide +kernel
theorem dX6_setThing_96 : decode cX6_setThing 96 = .ok (.ladd, 1) := by decide +kernel
theorem dX6_setThing_97 : decode cX6_setThing 97 = .ok (.lastore, 1) := by decide +kernel
theorem dX6_setThing_98 : decode cX6_setThing 98 = .ok (.iconst 0, 1) := by decide +kernel
theorem dX6_setThing_99 : decode cX6_setThing 99 = .ok (.ireturn, 1) := by decide +kernel
set_option maxRecDepth 20000 in
theorem ggX6_told_X6_isOfObjects : GoodIn wsX6_told wsX6_isOfObjects := goodIn_r _ [7, 8, 9, 10, 6, 11, 1, 20, 21, 22, 23, 24, 25, 26, 27, 28, 29] (by decide +kernel) (by decide +kernel)
set_option maxRecDepth 20000 in
theorem gX6_told_X6_isOfObjects : GoodIn wsX6_told (wsV RX6 70 RX6 yX6_isOfObjects wsX6_isOfObjects) := goodIn_app (goodIn_of _ (by decide +kernel)) ggX6_told_X6_isOfObjects
set_option maxRecDepth 20000 in
theorem ggX6_told_X6_object : GoodIn wsX6_told wsX6_object := goodIn_r _ [15, 1, 20, 21, 22, 23, 24, 25, 26, 27, 28, 29] (by decide +kernel) (by decide +kernel)
set_option maxRecDepth 20000 in
theorem gX6_told_X6_object : GoodIn wsX6_told (wsV RX6 84 RX6 yX6_object wsX6_object) := goodIn_app (goodIn_of _ (by decide +kernel)) ggX6_told_X6_object
set_option maxRecDepth 20000 in
theorem ggX6_told_X6_kind : GoodIn wsX6_told wsX6_kind := goodIn_r _ [11, 1, 20, 21, 22, 23, 24, 25, 26, 27, 28, 29] (by decide +kernel) (by decide +kernel)
set_option maxRecDepth 20000 in
theorem gX6_told_X6_kind : GoodIn wsX6_told (wsV RX6 25 RX6 yX6_kind wsX6_kind) := goodIn_app (goodIn_of _ (by decide +kernel)) ggX6_told_X6_kind
set_option maxRecDepth 20000 in
theorem ggX6_told_X6_low : GoodIn wsX6_told wsX6_low := goodIn_r _ [19, 1, 20, 21, 22, 23, 24, 25, 26, 27, 28, 29] (by decide +kernel) (by decide +kernel)
set_option maxRecDepth 20000 in
theorem gX6_told_X6_low : GoodIn wsX6_told (wsV RX6 29 RX6 yX6_low wsX6_low) := goodIn_app (goodIn_of _ (by decide +kernel)) ggX6_told_X6_low
theorem dX6_told_0 : decode cX6_told 0 = .ok (.aload_n 0, 1) := by decide +kernel
theorem dX6_told_1 : decode cX6_told 1 = .ok (.iload_n 1, 1) := by decide +kernel
theorem dX6_told_2 : decode cX6_told 2 = .ok (.invokevirtual 70, 3) := by decide +kernel
theorem dX6_told_5 : decode cX6_told 5 = .ok (.ifCond .ne 14, 3) := by decide +kernel
theorem dX6_told_8 : decode cX6_told 8 = .ok (.aload_n 0, 1) := by decide +kernel
theorem dX6_told_9 : decode cX6_told 9 = .ok (.getfield 8, 3) := by decide +kernel
theorem dX6_told_12 : decode cX6_told 12 = .ok (.iload_n 1, 1) := by decide +kernel
theorem dX6_told_13 : decode cX6_told 13 = .ok (.iconst 1, 1) := by decide +kernel
theorem dX6_told_14 : decode cX6_told 14 = .ok (.iadd, 1) := by decide +kernel
theorem dX6_told_15 : decode cX6_told 15 = .ok (.iload_n 2, 1) := by decide +kernel
theorem dX6_told_16 : decode cX6_told 16 = .ok (.iadd, 1) := by decide +kernel
theorem dX6_told_17 : decode cX6_told 17 = .ok (.laload, 1) := by decide +kernel
theorem dX6_told_18 : decode cX6_told 18 = .ok (.lreturn, 1) := by decide +kernel
theorem dX6_told_19 : decode cX6_told 19 = .ok (.aload_n 0, 1) := by decide +kernel
theorem dX6_told_20 : decode cX6_told 20 = .ok (.iload_n 1, 1) := by decide +kernel
theorem dX6_told_21 : decode cX6_told 21 = .ok (.iload_n 2, 1) := by decide +kernel
theorem dX6_told_22 : decode cX6_told 22 = .ok (.invokevirtual 84, 3) := by decide +kernel
theorem dX6_told_25 : decode cX6_told 25 = .ok (.istore_n 3, 1) := by decide +kernel
theorem dX6_told_26 : decode cX6_told 26 = .ok (.iload_n 3, 1) := by decide +kernel
theorem dX6_told_27 : decode cX6_told 27 = .ok (.ifCond .ge 7, 3) := by decide +kernel
theorem dX6_told_30 : decode cX6_told 30 = .ok (.ldc2_w 87, 3) := by decide +kernel
theorem dX6_told_33 : decode cX6_told 33 = .ok (.lreturn, 1) := by decide +kernel
theorem dX6_told_34 : decode cX6_told 34 = .ok (.aload_n 0, 1) := by decide +kernel
theorem dX6_told_35 : decode cX6_told 35 = .ok (.iload_n 3, 1) := by decide +kernel
theorem dX6_told_36 : decode cX6_told 36 = .ok (.invokevirtual 25, 3) := by decide +kernel
theorem dX6_told_39 : decode cX6_told 39 = .ok (.ifCond .ne 12, 3) := by decide +kernel
theorem dX6_told_42 : decode cX6_told 42 = .ok (.aload_n 0, 1) := by decide +kernel
theorem dX6_told_43 : decode cX6_told 43 = .ok (.iload_n 3, 1) := by decide +kernel
theorem dX6_told_44 : decode cX6_told 44 = .ok (.invokevirtual 29, 3) := by decide +kernel
theorem dX6_told_47 : decode cX6_told 47 = .ok (.i2l, 1) := by decide +kernel
theorem dX6_told_48 : decode cX6_told 48 = .ok (.goto 9, 3) := by decide +kernel
theorem dX6_told_51 : decode cX6_told 51 = .ok (.aload_n 0, 1) := by decide +kernel
theorem dX6_told_52 : decode cX6_told 52 = .ok (.getfield 8, 3) := by decide +kernel
theorem dX6_told_55 : decode cX6_told 55 = .ok (.iload_n 3, 1) := by decide +kernel
theorem dX6_told_56 : decode cX6_told 56 = .ok (.laload, 1) := by decide +kernel
theorem dX6_told_57 : decode cX6_told 57 = .ok (.lreturn, 1) := by decide +kernel
set_option maxRecDepth 20000 in
theorem ggX6_refusal_X6_isThing : GoodIn wsX6_refusal wsX6_isThing := goodIn_r _ [5, 6, 7, 8, 4, 9, 10, 19, 20, 21, 22, 23, 24, 25, 26, 27, 28] (by decide +kernel) (by decide +kernel)
set_option maxRecDepth 20000 in
theorem gX6_refusal_X6_isThing : GoodIn wsX6_refusal (wsV RX6 53 RX6 yX6_isThing wsX6_isThing) := goodIn_app (goodIn_of _ (by decide +kernel)) ggX6_refusal_X6_isThing
set_option maxRecDepth 20000 in
theorem ggX6_refusal_X6_isElement : GoodIn wsX6_refusal wsX6_isElement := goodIn_r _ [14, 15, 16, 17, 4, 18, 10, 19, 20, 21, 22, 23, 24, 25, 26, 27, 28] (by decide +kernel) (by decide +kernel)
set_option maxRecDepth 20000 in
theorem gX6_refusal_X6_isElement : GoodIn wsX6_refusal (wsV RX6 73 RX6 yX6_isElement wsX6_isElement) := goodIn_app (goodIn_of _ (by decide +kernel)) ggX6_refusal_X6_isElement
theorem dX6_refusal_0 : decode cX6_refusal 0 = .ok (.iload_n 1, 1) := by decide +kernel
theorem dX6_refusal_1 : decode cX6_refusal 1 = .ok (.ifCond .ge 7, 3) := by decide +kernel
theorem dX6_refusal_4 : decode cX6_refusal 4 = .ok (.iconst 1, 1) := by decide +kernel
theorem dX6_refusal_5 : decode cX6_refusal 5 = .ok (.goto 29, 3) := by decide +kernel
theorem dX6_refusal_8 : decode cX6_refusal 8 = .ok (.aload_n 0, 1) := by decide +kernel
theorem dX6_refusal_9 : decode cX6_refusal 9 = .ok (.iload_n 1, 1) := by decide +kernel
theorem dX6_refusal_10 : decode cX6_refusal 10 = .ok (.invokevirtual 53, 3) := by decide +kernel
theorem dX6_refusal_13 : decode cX6_refusal 13 = .ok (.ifCond .eq 7, 3) := by decide +kernel
theorem dX6_refusal_16 : decode cX6_refusal 16 = .ok (.iconst 2, 1) := by decide +kernel
theorem dX6_refusal_17 : decode cX6_refusal 17 = .ok (.goto 17, 3) := by decide +kernel
theorem dX6_refusal_20 : decode cX6_refusal 20 = .ok (.aload_n 0, 1) := by decide +kernel
theorem dX6_refusal_21 : decode cX6_refusal 21 = .ok (.iload_n 1, 1) := by decide +kernel
theorem dX6_refusal_22 : decode cX6_refusal 22 = .ok (.iload_n 2, 1) := by decide +kernel
theorem dX6_refusal_23 : decode cX6_refusal 23 = .ok (.invokevirtual 73, 3) := by decide +kernel
theorem dX6_refusal_26 : decode cX6_refusal 26 = .ok (.ifCond .ne 7, 3) := by decide +kernel
theorem dX6_refusal_29 : decode cX6_refusal 29 = .ok (.iconst 4, 1) := by decide +kernel
theorem dX6_refusal_30 : decode cX6_refusal 30 = .ok (.goto 4, 3) := by decide +kernel
theorem dX6_refusal_33 : decode cX6_refusal 33 = .ok (.iconst 0, 1) := by decide +kernel
theorem dX6_refusal_34 : decode cX6_refusal 34 = .ok (.ireturn, 1) := by decide +kernel
set_option maxRecDepth 20000 in
theorem ggX6_get_X6_in : GoodIn wsX6_get wsX6_in := goodIn_r _ [6, 7, 8, 9, 5, 10, 45, 46, 47, 48, 49, 50, 51, 52, 53, 54] (by decide +kernel) (by decide +kernel)
set_option maxRecDepth 20000 in
theorem gX6_get_X6_in : GoodIn wsX6_get (wsV RX6 50 RX6 yX6_in wsX6_in) := goodIn_app (goodIn_of _ (by decide +kernel)) ggX6_get_X6_in
set_option maxRecDepth 20000 in
theorem ggX6_get_X6_refusal : GoodIn wsX6_get wsX6_refusal := goodIn_r _ [14, 15, 16, 17, 5, 18, 19, 20, 21, 22, 23, 24, 25, 26, 27, 28, 29, 30, 31, 45, 46, 47, 48, 49, 50, 51, 52, 53, 54] (by decide +kernel) (by decide +kernel)
set_option maxRecDepth 20000 in
theorem gX6_get_X6_refusal : GoodIn wsX6_get (wsV RX6 89 RX6 yX6_refusal wsX6_refusal) := goodIn_app (goodIn_of _ (by decide +kernel)) ggX6_get_X6_refusal
set_option maxRecDepth 20000 in
theorem ggX6_get_X6_told : GoodIn wsX6_get wsX6_told := goodIn_r _ [35, 23, 36, 37, 38, 39, 5, 40, 19, 20, 21, 22, 41, 42, 43, 44, 28, 29, 30, 31, 45, 46, 47, 48, 49, 50, 51, 52, 53, 54] (by decide +kernel) (by decide +kernel)
set_option maxRecDepth 20000 in
theorem gX6_get_X6_told : GoodIn wsX6_get (wsV RX6 95 RX6 yX6_told wsX6_told) := goodIn_app (goodIn_of _ (by decide +kernel)) ggX6_get_X6_told
theorem dX6_get_0 : decode cX6_get 0 = .ok (.aload_n 0, 1) := by decide +kernel
theorem dX6_get_1 : decode cX6_get 1 = .ok (.iload_n 1, 1) := by decide +kernel
theorem dX6_get_2 : decode cX6_get 2 = .ok (.invokevirtual 50, 3) := by decide +kernel
theorem dX6_get_5 : decode cX6_get 5 = .ok (.istore_n 3, 1) := by decide +kernel
theorem dX6_get_6 : decode cX6_get 6 = .ok (.aload_n 0, 1) := by decide +kernel
theorem dX6_get_7 : decode cX6_get 7 = .ok (.aload_n 0, 1) := by decide +kernel
theorem dX6_get_8 : decode cX6_get 8 = .ok (.iload_n 3, 1) := by decide +kernel
theorem dX6_get_9 : decode cX6_get 9 = .ok (.iload_n 2, 1) := by decide +kernel
theorem dX6_get_10 : decode cX6_get 10 = .ok (.invokevirtual 89, 3) := by decide +kernel
theorem dX6_get_13 : decode cX6_get 13 = .ok (.putfield 92, 3) := by decide +kernel
theorem dX6_get_16 : decode cX6_get 16 = .ok (.aload_n 0, 1) := by decide +kernel
theorem dX6_get_17 : decode cX6_get 17 = .ok (.getfield 92, 3) := by decide +kernel
theorem dX6_get_20 : decode cX6_get 20 = .ok (.ifCond .le 7, 3) := by decide +kernel
theorem dX6_get_23 : decode cX6_get 23 = .ok (.lconst 0, 1) := by decide +kernel
theorem dX6_get_24 : decode cX6_get 24 = .ok (.goto 9, 3) := by decide +kernel
theorem dX6_get_27 : decode cX6_get 27 = .ok (.aload_n 0, 1) := by decide +kernel
theorem dX6_get_28 : decode cX6_get 28 = .ok (.iload_n 3, 1) := by decide +kernel
theorem dX6_get_29 : decode cX6_get 29 = .ok (.iload_n 2, 1) := by decide +kernel
theorem dX6_get_30 : decode cX6_get 30 = .ok (.invokevirtual 95, 3) := by decide +kernel
theorem dX6_get_33 : decode cX6_get 33 = .ok (.lreturn, 1) := by decide +kernel
set_option maxRecDepth 20000 in
theorem ggX6_deep_X6_in : GoodIn wsX6_deep wsX6_in := goodIn_r _ [7, 8, 9, 10, 6, 11, 32, 33, 34, 35, 36, 37, 38, 39, 40, 41] (by decide +kernel) (by decide +kernel)
set_option maxRecDepth 20000 in
theorem gX6_deep_X6_in : GoodIn wsX6_deep (wsV RX6 50 RX6 yX6_in wsX6_in) := goodIn_app (goodIn_of _ (by decide +kernel)) ggX6_deep_X6_in
set_option maxRecDepth 20000 in
theorem ggX6_deep_X6_isThing : GoodIn wsX6_deep wsX6_isThing := goodIn_r _ [15, 16, 17, 18, 6, 19, 2, 32, 33, 34, 35, 36, 37, 38, 39, 40, 41] (by decide +kernel) (by decide +kernel)
set_option maxRecDepth 20000 in
theorem gX6_deep_X6_isThing : GoodIn wsX6_deep (wsV RX6 53 RX6 yX6_isThing wsX6_isThing) := goodIn_app (goodIn_of _ (by decide +kernel)) ggX6_deep_X6_isThing
set_option maxRecDepth 20000 in
theorem ggX6_deep_X6_kind : GoodIn wsX6_deep wsX6_kind := goodIn_r _ [19, 2, 32, 33, 34, 35, 36, 37, 38, 39, 40, 41] (by decide +kernel) (by decide +kernel)
set_option maxRecDepth 20000 in
theorem gX6_deep_X6_kind : GoodIn wsX6_deep (wsV RX6 25 RX6 yX6_kind wsX6_kind) := goodIn_app (goodIn_of _ (by decide +kernel)) ggX6_deep_X6_kind
set_option maxRecDepth 20000 in
theorem ggX6_deep_X6_isElement : GoodIn wsX6_deep wsX6_isElement := goodIn_r _ [23, 24, 25, 26, 6, 27, 2, 32, 33, 34, 35, 36, 37, 38, 39, 40, 41] (by decide +kernel) (by decide +kernel)
set_option maxRecDepth 20000 in
theorem gX6_deep_X6_isElement : GoodIn wsX6_deep (wsV RX6 73 RX6 yX6_isElement wsX6_isElement) := goodIn_app (goodIn_of _ (by decide +kernel)) ggX6_deep_X6_isElement
set_option maxRecDepth 20000 in
theorem ggX6_deep_X6_object : GoodIn wsX6_deep wsX6_object := goodIn_r _ [31, 2, 32, 33, 34, 35, 36, 37, 38, 39, 40, 41] (by decide +kernel) (by decide +kernel)
set_option maxRecDepth 20000 in
theorem gX6_deep_X6_object : GoodIn wsX6_deep (wsV RX6 84 RX6 yX6_object wsX6_object) := goodIn_app (goodIn_of _ (by decide +kernel)) ggX6_deep_X6_object
theorem dX6_deep_0 : decode cX6_deep 0 = .ok (.aload_n 0, 1) := by decide +kernel
theorem dX6_deep_1 : decode cX6_deep 1 = .ok (.iload_n 1, 1) := by decide +kernel
theorem dX6_deep_2 : decode cX6_deep 2 = .ok (.invokevirtual 50, 3) := by decide +kernel
theorem dX6_deep_5 : decode cX6_deep 5 = .ok (.istore 4, 2) := by decide +kernel
theorem dX6_deep_7 : decode cX6_deep 7 = .ok (.aload_n 0, 1) := by decide +kernel
theorem dX6_deep_8 : decode cX6_deep 8 = .ok (.iload 4, 2) := by decide +kernel
theorem dX6_deep_10 : decode cX6_deep 10 = .ok (.ifCond .ge 7, 3) := by decide +kernel
theorem dX6_deep_13 : decode cX6_deep 13 = .ok (.iconst 1, 1) := by decide +kernel
theorem dX6_deep_14 : decode cX6_deep 14 = .ok (.goto 45, 3) := by decide +kernel
theorem dX6_deep_17 : decode cX6_deep 17 = .ok (.aload_n 0, 1) := by decide +kernel
theorem dX6_deep_18 : decode cX6_deep 18 = .ok (.iload 4, 2) := by decide +kernel
theorem dX6_deep_20 : decode cX6_deep 20 = .ok (.invokevirtual 53, 3) := by decide +kernel
theorem dX6_deep_23 : decode cX6_deep 23 = .ok (.ifCond .eq 7, 3) := by decide +kernel
theorem dX6_deep_26 : decode cX6_deep 26 = .ok (.iconst 2, 1) := by decide +kernel
theorem dX6_deep_27 : decode cX6_deep 27 = .ok (.goto 32, 3) := by decide +kernel
theorem dX6_deep_30 : decode cX6_deep 30 = .ok (.aload_n 0, 1) := by decide +kernel
theorem dX6_deep_31 : decode cX6_deep 31 = .ok (.iload 4, 2) := by decide +kernel
theorem dX6_deep_33 : decode cX6_deep 33 = .ok (.invokevirtual 25, 3) := by decide +kernel
theorem dX6_deep_36 : decode cX6_deep 36 = .ok (.iconst 4, 1) := by decide +kernel
theorem dX6_deep_37 : decode cX6_deep 37 = .ok (.if_icmp .eq 7, 3) := by decide +kernel
theorem dX6_deep_40 : decode cX6_deep 40 = .ok (.iconst 3, 1) := by decide +kernel
theorem dX6_deep_41 : decode cX6_deep 41 = .ok (.goto 18, 3) := by decide +kernel
theorem dX6_deep_44 : decode cX6_deep 44 = .ok (.aload_n 0, 1) := by decide +kernel
theorem dX6_deep_45 : decode cX6_deep 45 = .ok (.iload 4, 2) := by decide +kernel
theorem dX6_deep_47 : decode cX6_deep 47 = .ok (.iload_n 2, 1) := by decide +kernel
theorem dX6_deep_48 : decode cX6_deep 48 = .ok (.invokevirtual 73, 3) := by decide +kernel
theorem dX6_deep_51 : decode cX6_deep 51 = .ok (.ifCond .ne 7, 3) := by decide +kernel
theorem dX6_deep_54 : decode cX6_deep 54 = .ok (.iconst 4, 1) := by decide +kernel
theorem dX6_deep_55 : decode cX6_deep 55 = .ok (.goto 4, 3) := by decide +kernel
theorem dX6_deep_58 : decode cX6_deep 58 = .ok (.iconst 0, 1) := by decide +kernel
theorem dX6_deep_59 : decode cX6_deep 59 = .ok (.putfield 92, 3) := by decide +kernel
theorem dX6_deep_62 : decode cX6_deep 62 = .ok (.aload_n 0, 1) := by decide +kernel
theorem dX6_deep_63 : decode cX6_deep 63 = .ok (.getfield 92, 3) := by decide +kernel
theorem dX6_deep_66 : decode cX6_deep 66 = .ok (.ifCond .le 5, 3) := by decide +kernel
theorem dX6_deep_69 : decode cX6_deep 69 = .ok (.lconst 0, 1) := by decide +kernel
theorem dX6_deep_70 : decode cX6_deep 70 = .ok (.lreturn, 1) := by decide +kernel
theorem dX6_deep_71 : decode cX6_deep 71 = .ok (.aload_n 0, 1) := by decide +kernel
theorem dX6_deep_72 : decode cX6_deep 72 = .ok (.iload 4, 2) := by decide +kernel
theorem dX6_deep_74 : decode cX6_deep 74 = .ok (.iload_n 2, 1) := by decide +kernel
theorem dX6_deep_75 : decode cX6_deep 75 = .ok (.invokevirtual 84, 3) := by decide +kernel
theorem dX6_deep_78 : decode cX6_deep 78 = .ok (.istore 5, 2) := by decide +kernel
theorem dX6_deep_80 : decode cX6_deep 80 = .ok (.aload_n 0, 1) := by decide +kernel
theorem dX6_deep_81 : decode cX6_deep 81 = .ok (.iload 5, 2) := by decide +kernel
theorem dX6_deep_83 : decode cX6_deep 83 = .ok (.ifCond .ge 7, 3) := by decide +kernel
theorem dX6_deep_86 : decode cX6_deep 86 = .ok (.iconst 5, 1) := by decide +kernel
theorem dX6_deep_87 : decode cX6_deep 87 = .ok (.goto 19, 3) := by decide +kernel
theorem dX6_deep_90 : decode cX6_deep 90 = .ok (.aload_n 0, 1) := by decide +kernel
theorem dX6_deep_91 : decode cX6_deep 91 = .ok (.iload 5, 2) := by decide +kernel
theorem dX6_deep_93 : decode cX6_deep 93 = .ok (.iload_n 3, 1) := by decide +kernel
theorem dX6_deep_94 : decode cX6_deep 94 = .ok (.invokevirtual 73, 3) := by decide +kernel
theorem dX6_deep_97 : decode cX6_deep 97 = .ok (.ifCond .ne 8, 3) := by decide +kernel
theorem dX6_deep_100 : decode cX6_deep 100 = .ok (.bipush 6, 2) := by decide +kernel
theorem dX6_deep_102 : decode cX6_deep 102 = .ok (.goto 4, 3) := by decide +kernel
theorem dX6_deep_105 : decode cX6_deep 105 = .ok (.iconst 0, 1) := by decide +kernel
theorem dX6_deep_106 : decode cX6_deep 106 = .ok (.putfield 92, 3) := by decide +kernel
theorem dX6_deep_109 : decode cX6_deep 109 = .ok (.aload_n 0, 1) := by decide +kernel
theorem dX6_deep_110 : decode cX6_deep 110 = .ok (.getfield 92, 3) := by decide +kernel
theorem dX6_deep_113 : decode cX6_deep 113 = .ok (.ifCond .le 7, 3) := by decide +kernel
theorem dX6_deep_116 : decode cX6_deep 116 = .ok (.lconst 0, 1) := by decide +kernel
theorem dX6_deep_117 : decode cX6_deep 117 = .ok (.goto 14, 3) := by decide +kernel
theorem dX6_deep_120 : decode cX6_deep 120 = .ok (.aload_n 0, 1) := by decide +kernel
theorem dX6_deep_121 : decode cX6_deep 121 = .ok (.getfield 8, 3) := by decide +kernel
theorem dX6_deep_124 : decode cX6_deep 124 = .ok (.iload 5, 2) := by decide +kernel
theorem dX6_deep_126 : decode cX6_deep 126 = .ok (.iconst 1, 1) := by decide +kernel
theorem dX6_deep_127 : decode cX6_deep 127 = .ok (.iadd, 1) := by decide +kernel
theorem dX6_deep_128 : decode cX6_deep 128 = .ok (.iload_n 3, 1) := by decide +kernel
theorem dX6_deep_129 : decode cX6_deep 129 = .ok (.iadd, 1) := by decide +kernel
theorem dX6_deep_130 : decode cX6_deep 130 = .ok (.laload, 1) := by decide +kernel
theorem dX6_deep_131 : decode cX6_deep 131 = .ok (.lreturn, 1) := by decide +kernel
theorem dX6_why_0 : decode cX6_why 0 = .ok (.aload_n 0, 1) := by decide +kernel
theorem dX6_why_1 : decode cX6_why 1 = .ok (.getfield 92, 3) := by decide +kernel
theorem dX6_why_4 : decode cX6_why 4 = .ok (.ireturn, 1) := by decide +kernel
set_option maxRecDepth 20000 in
theorem ggX6_lift_X6_in : GoodIn wsX6_lift wsX6_in := goodIn_r _ [6, 1, 7, 8, 5, 9, 39, 40, 41, 42, 43, 44, 45, 46, 47, 48] (by decide +kernel) (by decide +kernel)
set_option maxRecDepth 20000 in
theorem gX6_lift_X6_in : GoodIn wsX6_lift (wsV RX6 50 RX6 yX6_in wsX6_in) := goodIn_app (goodIn_of _ (by decide +kernel)) ggX6_lift_X6_in
set_option maxRecDepth 20000 in
theorem ggX6_lift_X6_isThing : GoodIn wsX6_lift wsX6_isThing := goodIn_r _ [13, 14, 15, 16, 5, 17, 18, 39, 40, 41, 42, 43, 44, 45, 46, 47, 48] (by decide +kernel) (by decide +kernel)
set_option maxRecDepth 20000 in
theorem gX6_lift_X6_isThing : GoodIn wsX6_lift (wsV RX6 53 RX6 yX6_isThing wsX6_isThing) := goodIn_app (goodIn_of _ (by decide +kernel)) ggX6_lift_X6_isThing
set_option maxRecDepth 20000 in
theorem ggX6_lift_X6_isOfObjects : GoodIn wsX6_lift wsX6_isOfObjects := goodIn_r _ [22, 14, 15, 16, 5, 17, 18, 39, 40, 41, 42, 43, 44, 45, 46, 47, 48] (by decide +kernel) (by decide +kernel)
set_option maxRecDepth 20000 in
theorem gX6_lift_X6_isOfObjects : GoodIn wsX6_lift (wsV RX6 70 RX6 yX6_isOfObjects wsX6_isOfObjects) := goodIn_app (goodIn_of _ (by decide +kernel)) ggX6_lift_X6_isOfObjects
set_option maxRecDepth 20000 in
theorem ggX6_lift_X6_isElement : GoodIn wsX6_lift wsX6_isElement := goodIn_r _ [26, 27, 28, 29, 5, 30, 18, 39, 40, 41, 42, 43, 44, 45, 46, 47, 48] (by decide +kernel) (by decide +kernel)
set_option maxRecDepth 20000 in
theorem gX6_lift_X6_isElement : GoodIn wsX6_lift (wsV RX6 73 RX6 yX6_isElement wsX6_isElement) := goodIn_app (goodIn_of _ (by decide +kernel)) ggX6_lift_X6_isElement
set_option maxRecDepth 20000 in
theorem ggX6_lift_X6_object : GoodIn wsX6_lift wsX6_object := goodIn_r _ [34, 18, 39, 40, 41, 42, 43, 44, 45, 46, 47, 48] (by decide +kernel) (by decide +kernel)
set_option maxRecDepth 20000 in
theorem gX6_lift_X6_object : GoodIn wsX6_lift (wsV RX6 84 RX6 yX6_object wsX6_object) := goodIn_app (goodIn_of _ (by decide +kernel)) ggX6_lift_X6_object
set_option maxRecDepth 20000 in
theorem ggX6_lift_X6_lowestEmpty : GoodIn wsX6_lift wsX6_lowestEmpty := goodIn_r _ [38, 1, 39, 40, 41, 42, 43, 44, 45, 46, 47, 48] (by decide +kernel) (by decide +kernel)
set_option maxRecDepth 20000 in
theorem gX6_lift_X6_lowestEmpty : GoodIn wsX6_lift (wsV RX6 38 RX6 yX6_lowestEmpty wsX6_lowestEmpty) := goodIn_app (goodIn_of _ (by decide +kernel)) ggX6_lift_X6_lowestEmpty
theorem dX6_lift_0 : decode cX6_lift 0 = .ok (.aload_n 0, 1) := by decide +kernel
theorem dX6_lift_1 : decode cX6_lift 1 = .ok (.iload_n 1, 1) := by decide +kernel
theorem dX6_lift_2 : decode cX6_lift 2 = .ok (.invokevirtual 50, 3) := by decide +kernel
theorem dX6_lift_5 : decode cX6_lift 5 = .ok (.istore_n 3, 1) := by decide +kernel
theorem dX6_lift_6 : decode cX6_lift 6 = .ok (.iload_n 3, 1) := by decide +kernel
theorem dX6_lift_7 : decode cX6_lift 7 = .ok (.ifCond .ge 5, 3) := by decide +kernel
theorem dX6_lift_10 : decode cX6_lift 10 = .ok (.iconst (-1), 1) := by decide +kernel
theorem dX6_lift_11 : decode cX6_lift 11 = .ok (.ireturn, 1) := by decide +kernel
theorem dX6_lift_12 : decode cX6_lift 12 = .ok (.aload_n 0, 1) := by decide +kernel
theorem dX6_lift_13 : decode cX6_lift 13 = .ok (.iload_n 3, 1) := by decide +kernel
theorem dX6_lift_14 : decode cX6_lift 14 = .ok (.invokevirtual 53, 3) := by decide +kernel
theorem dX6_lift_17 : decode cX6_lift 17 = .ok (.ifCond .eq 6, 3) := by decide +kernel
theorem dX6_lift_20 : decode cX6_lift 20 = .ok (.bipush (-2), 2) := by decide +kernel
theorem dX6_lift_22 : decode cX6_lift 22 = .ok (.ireturn, 1) := by decide +kernel
theorem dX6_lift_23 : decode cX6_lift 23 = .ok (.aload_n 0, 1) := by decide +kernel
theorem dX6_lift_24 : decode cX6_lift 24 = .ok (.iload_n 3, 1) := by decide +kernel
theorem dX6_lift_25 : decode cX6_lift 25 = .ok (.invokevirtual 70, 3) := by decide +kernel
theorem dX6_lift_28 : decode cX6_lift 28 = .ok (.ifCond .ne 6, 3) := by decide +kernel
theorem dX6_lift_31 : decode cX6_lift 31 = .ok (.bipush (-3), 2) := by decide +kernel
theorem dX6_lift_33 : decode cX6_lift 33 = .ok (.ireturn, 1) := by decide +kernel
theorem dX6_lift_34 : decode cX6_lift 34 = .ok (.aload_n 0, 1) := by decide +kernel
theorem dX6_lift_35 : decode cX6_lift 35 = .ok (.iload_n 3, 1) := by decide +kernel
theorem dX6_lift_36 : decode cX6_lift 36 = .ok (.iload_n 2, 1) := by decide +kernel
theorem dX6_lift_37 : decode cX6_lift 37 = .ok (.invokevirtual 73, 3) := by decide +kernel
theorem dX6_lift_40 : decode cX6_lift 40 = .ok (.ifCond .ne 6, 3) := by decide +kernel
theorem dX6_lift_43 : decode cX6_lift 43 = .ok (.bipush (-4), 2) := by decide +kernel
theorem dX6_lift_45 : decode cX6_lift 45 = .ok (.ireturn, 1) := by decide +kernel
theorem dX6_lift_46 : decode cX6_lift 46 = .ok (.aload_n 0, 1) := by decide +kernel
theorem dX6_lift_47 : decode cX6_lift 47 = .ok (.iload_n 3, 1) := by decide +kernel
theorem dX6_lift_48 : decode cX6_lift 48 = .ok (.iload_n 2, 1) := by decide +kernel
theorem dX6_lift_49 : decode cX6_lift 49 = .ok (.invokevirtual 84, 3) := by decide +kernel
theorem dX6_lift_52 : decode cX6_lift 52 = .ok (.istore 4, 2) := by decide +kernel
theorem dX6_lift_54 : decode cX6_lift 54 = .ok (.iload 4, 2) := by decide +kernel
theorem dX6_lift_56 : decode cX6_lift 56 = .ok (.ifCond .ge 6, 3) := by decide +kernel
theorem dX6_lift_59 : decode cX6_lift 59 = .ok (.bipush (-5), 2) := by decide +kernel
theorem dX6_lift_61 : decode cX6_lift 61 = .ok (.ireturn, 1) := by decide +kernel
theorem dX6_lift_62 : decode cX6_lift 62 = .ok (.aload_n 0, 1) := by decide +kernel
theorem dX6_lift_63 : decode cX6_lift 63 = .ok (.invokevirtual 38, 3) := by decide +kernel
theorem dX6_lift_66 : decode cX6_lift 66 = .ok (.istore 5, 2) := by decide +kernel
theorem dX6_lift_68 : decode cX6_lift 68 = .ok (.iload 5, 2) := by decide +kernel
theorem dX6_lift_70 : decode cX6_lift 70 = .ok (.ifCond .ge 6, 3) := by decide +kernel
theorem dX6_lift_73 : decode cX6_lift 73 = .ok (.bipush (-6), 2) := by decide +kernel
theorem dX6_lift_75 : decode cX6_lift 75 = .ok (.ireturn, 1) := by decide +kernel
theorem dX6_lift_76 : decode cX6_lift 76 = .ok (.aload_n 0, 1) := by decide +kernel
theorem dX6_lift_77 : decode cX6_lift 77 = .ok (.getfield 14, 3) := by decide +kernel
theorem dX6_lift_80 : decode cX6_lift 80 = .ok (.iload 5, 2) := by decide +kernel
theorem dX6_lift_82 : decode cX6_lift 82 = .ok (.iload 4, 2) := by decide +kernel
theorem dX6_lift_84 : decode cX6_lift 84 = .ok (.iconst 1, 1) := by decide +kernel
theorem dX6_lift_85 : decode cX6_lift 85 = .ok (.iadd, 1) := by decide +kernel
theorem dX6_lift_86 : decode cX6_lift 86 = .ok (.iastore, 1) := by decide +kernel
theorem dX6_lift_87 : decode cX6_lift 87 = .ok (.iload 5, 2) := by decide +kernel
theorem dX6_lift_89 : decode cX6_lift 89 = .ok (.ireturn, 1) := by decide +kernel
set_option maxRecDepth 20000 in
theorem ggX6_bars_X6_isThing : GoodIn wsX6_bars wsX6_isThing := goodIn_r _ [5, 6, 7, 8, 4, 9, 10, 19, 20, 21, 22, 23, 24, 25, 26, 27, 28] (by decide +kernel) (by decide +kernel)
set_option maxRecDepth 20000 in
theorem gX6_bars_X6_isThing : GoodIn wsX6_bars (wsV RX6 53 RX6 yX6_isThing wsX6_isThing) := goodIn_app (goodIn_of _ (by decide +kernel)) ggX6_bars_X6_isThing
set_option maxRecDepth 20000 in
theorem ggX6_bars_X6_isOfObjects : GoodIn wsX6_bars wsX6_isOfObjects := goodIn_r _ [14, 6, 7, 8, 4, 9, 10, 19, 20, 21, 22, 23, 24, 25, 26, 27, 28] (by decide +kernel) (by decide +kernel)
set_option maxRecDepth 20000 in
theorem gX6_bars_X6_isOfObjects : GoodIn wsX6_bars (wsV RX6 70 RX6 yX6_isOfObjects wsX6_isOfObjects) := goodIn_app (goodIn_of _ (by decide +kernel)) ggX6_bars_X6_isOfObjects
set_option maxRecDepth 20000 in
theorem ggX6_bars_X6_kind : GoodIn wsX6_bars wsX6_kind := goodIn_r _ [9, 10, 19, 20, 21, 22, 23, 24, 25, 26, 27, 28] (by decide +kernel) (by decide +kernel)
set_option maxRecDepth 20000 in
theorem gX6_bars_X6_kind : GoodIn wsX6_bars (wsV RX6 25 RX6 yX6_kind wsX6_kind) := goodIn_app (goodIn_of _ (by decide +kernel)) ggX6_bars_X6_kind
set_option maxRecDepth 20000 in
theorem ggX6_bars_X6_low : GoodIn wsX6_bars wsX6_low := goodIn_r _ [18, 10, 19, 20, 21, 22, 23, 24, 25, 26, 27, 28] (by decide +kernel) (by decide +kernel)
set_option maxRecDepth 20000 in
theorem gX6_bars_X6_low : GoodIn wsX6_bars (wsV RX6 29 RX6 yX6_low wsX6_low) := goodIn_app (goodIn_of _ (by decide +kernel)) ggX6_bars_X6_low
theorem dX6_bars_0 : decode cX6_bars 0 = .ok (.iload_n 1, 1) := by decide +kernel
theorem dX6_bars_1 : decode cX6_bars 1 = .ok (.ifCond .lt 7, 3) := by decide +kernel
theorem dX6_bars_4 : decode cX6_bars 4 = .ok (.iload_n 3, 1) := by decide +kernel
theorem dX6_bars_5 : decode cX6_bars 5 = .ok (.ifCond .ge 5, 3) := by decide +kernel
theorem dX6_bars_8 : decode cX6_bars 8 = .ok (.iconst 1, 1) := by decide +kernel
theorem dX6_bars_9 : decode cX6_bars 9 = .ok (.ireturn, 1) := by decide +kernel
theorem dX6_bars_10 : decode cX6_bars 10 = .ok (.aload_n 0, 1) := by decide +kernel
theorem dX6_bars_11 : decode cX6_bars 11 = .ok (.iload_n 1, 1) := by decide +kernel
theorem dX6_bars_12 : decode cX6_bars 12 = .ok (.invokevirtual 53, 3) := by decide +kernel
theorem dX6_bars_15 : decode cX6_bars 15 = .ok (.ifCond .ne 11, 3) := by decide +kernel
theorem dX6_bars_18 : decode cX6_bars 18 = .ok (.aload_n 0, 1) := by decide +kernel
theorem dX6_bars_19 : decode cX6_bars 19 = .ok (.iload_n 3, 1) := by decide +kernel
theorem dX6_bars_20 : decode cX6_bars 20 = .ok (.invokevirtual 53, 3) := by decide +kernel
theorem dX6_bars_23 : decode cX6_bars 23 = .ok (.ifCond .eq 5, 3) := by decide +kernel
theorem dX6_bars_26 : decode cX6_bars 26 = .ok (.iconst 2, 1) := by decide +kernel
theorem dX6_bars_27 : decode cX6_bars 27 = .ok (.ireturn, 1) := by decide +kernel
theorem dX6_bars_28 : decode cX6_bars 28 = .ok (.aload_n 0, 1) := by decide +kernel
theorem dX6_bars_29 : decode cX6_bars 29 = .ok (.iload_n 1, 1) := by decide +kernel
theorem dX6_bars_30 : decode cX6_bars 30 = .ok (.invokevirtual 70, 3) := by decide +kernel
theorem dX6_bars_33 : decode cX6_bars 33 = .ok (.aload_n 0, 1) := by decide +kernel
theorem dX6_bars_34 : decode cX6_bars 34 = .ok (.iload_n 3, 1) := by decide +kernel
theorem dX6_bars_35 : decode cX6_bars 35 = .ok (.invokevirtual 70, 3) := by decide +kernel
theorem dX6_bars_38 : decode cX6_bars 38 = .ok (.if_icmp .ne 24, 3) := by decide +kernel
theorem dX6_bars_41 : decode cX6_bars 41 = .ok (.aload_n 0, 1) := by decide +kernel
theorem dX6_bars_42 : decode cX6_bars 42 = .ok (.iload_n 1, 1) := by decide +kernel
theorem dX6_bars_43 : decode cX6_bars 43 = .ok (.invokevirtual 70, 3) := by decide +kernel
theorem dX6_bars_46 : decode cX6_bars 46 = .ok (.ifCond .ne 18, 3) := by decide +kernel
theorem dX6_bars_49 : decode cX6_bars 49 = .ok (.aload_n 0, 1) := by decide +kernel
theorem dX6_bars_50 : decode cX6_bars 50 = .ok (.iload_n 1, 1) := by decide +kernel
theorem dX6_bars_51 : decode cX6_bars 51 = .ok (.invokevirtual 25, 3) := by decide +kernel
theorem dX6_bars_54 : decode cX6_bars 54 = .ok (.aload_n 0, 1) := by decide +kernel
theorem dX6_bars_55 : decode cX6_bars 55 = .ok (.iload_n 3, 1) := by decide +kernel
theorem dX6_bars_56 : decode cX6_bars 56 = .ok (.invokevirtual 25, 3) := by decide +kernel
theorem dX6_bars_59 : decode cX6_bars 59 = .ok (.if_icmp .eq 5, 3) := by decide +kernel
theorem dX6_bars_62 : decode cX6_bars 62 = .ok (.iconst 3, 1) := by decide +kernel
theorem dX6_bars_63 : decode cX6_bars 63 = .ok (.ireturn, 1) := by decide +kernel
theorem dX6_bars_64 : decode cX6_bars 64 = .ok (.iload_n 2, 1) := by decide +kernel
theorem dX6_bars_65 : decode cX6_bars 65 = .ok (.ifCond .lt 13, 3) := by decide +kernel
theorem dX6_bars_68 : decode cX6_bars 68 = .ok (.iload 4, 2) := by decide +kernel
theorem dX6_bars_70 : decode cX6_bars 70 = .ok (.ifCond .lt 8, 3) := by decide +kernel
theorem dX6_bars_73 : decode cX6_bars 73 = .ok (.iload 5, 2) := by decide +kernel
theorem dX6_bars_75 : decode cX6_bars 75 = .ok (.ifCond .ge 7, 3) := by decide +kernel
theorem dX6_bars_78 : decode cX6_bars 78 = .ok (.iconst 1, 1) := by decide +kernel
theorem dX6_bars_79 : decode cX6_bars 79 = .ok (.goto 4, 3) := by decide +kernel
theorem dX6_bars_82 : decode cX6_bars 82 = .ok (.iconst 0, 1) := by decide +kernel
theorem dX6_bars_83 : decode cX6_bars 83 = .ok (.istore 6, 2) := by decide +kernel
theorem dX6_bars_85 : decode cX6_bars 85 = .ok (.iload 6, 2) := by decide +kernel
theorem dX6_bars_87 : decode cX6_bars 87 = .ok (.ifCond .ne 36, 3) := by decide +kernel
theorem dX6_bars_90 : decode cX6_bars 90 = .ok (.iload_n 2, 1) := by decide +kernel
theorem dX6_bars_91 : decode cX6_bars 91 = .ok (.i2l, 1) := by decide +kernel
theorem dX6_bars_92 : decode cX6_bars 92 = .ok (.iload 5, 2) := by decide +kernel
theorem dX6_bars_94 : decode cX6_bars 94 = .ok (.i2l, 1) := by decide +kernel
theorem dX6_bars_95 : decode cX6_bars 95 = .ok (.ladd, 1) := by decide +kernel
theorem dX6_bars_96 : decode cX6_bars 96 = .ok (.aload_n 0, 1) := by decide +kernel
theorem dX6_bars_97 : decode cX6_bars 97 = .ok (.iload_n 1, 1) := by decide +kernel
theorem dX6_bars_98 : decode cX6_bars 98 = .ok (.invokevirtual 29, 3) := by decide +kernel
theorem dX6_bars_101 : decode cX6_bars 101 = .ok (.i2l, 1) := by decide +kernel
theorem dX6_bars_102 : decode cX6_bars 102 = .ok (.lcmp, 1) := by decide +kernel
theorem dX6_bars_103 : decode cX6_bars 103 = .ok (.ifCond .gt 20, 3) := by decide +kernel
theorem dX6_bars_106 : decode cX6_bars 106 = .ok (.iload 4, 2) := by decide +kernel
theorem dX6_bars_108 : decode cX6_bars 108 = .ok (.i2l, 1) := by decide +kernel
theorem dX6_bars_109 : decode cX6_bars 109 = .ok (.iload 5, 2) := by decide +kernel
theorem dX6_bars_111 : decode cX6_bars 111 = .ok (.i2l, 1) := by decide +kernel
theorem dX6_bars_112 : decode cX6_bars 112 = .ok (.ladd, 1) := by decide +kernel
theorem dX6_bars_113 : decode cX6_bars 113 = .ok (.aload_n 0, 1) := by decide +kernel
theorem dX6_bars_114 : decode cX6_bars 114 = .ok (.iload_n 3, 1) := by decide +kernel
theorem dX6_bars_115 : decode cX6_bars 115 = .ok (.invokevirtual 29, 3) := by decide +kernel
theorem dX6_bars_118 : decode cX6_bars 118 = .ok (.i2l, 1) := by decide +kernel
theorem dX6_bars_119 : decode cX6_bars 119 = .ok (.lcmp, 1) := by decide +kernel
theorem dX6_bars_120 : decode cX6_bars 120 = .ok (.ifCond .le 7, 3) := by decide +kernel
theorem dX6_bars_123 : decode cX6_bars 123 = .ok (.iconst 4, 1) := by decide +kernel
theorem dX6_bars_124 : decode cX6_bars 124 = .ok (.goto 4, 3) := by decide +kernel
theorem dX6_bars_127 : decode cX6_bars 127 = .ok (.iconst 0, 1) := by decide +kernel
theorem dX6_bars_128 : decode cX6_bars 128 = .ok (.ireturn, 1) := by decide +kernel
set_option maxRecDepth 20000 in
theorem ggX6_move_X6_in : GoodIn wsX6_move wsX6_in := goodIn_r _ [10, 11, 12, 13, 9, 14, 43, 44, 45, 46, 47, 48, 49, 50, 51, 52] (by decide +kernel) (by decide +kernel)
set_option maxRecDepth 20000 in
theorem gX6_move_X6_in : GoodIn wsX6_move (wsV RX6 50 RX6 yX6_in wsX6_in) := goodIn_app (goodIn_of _ (by decide +kernel)) ggX6_move_X6_in
set_option maxRecDepth 20000 in
theorem ggX6_move_X6_bars : GoodIn wsX6_move wsX6_bars := goodIn_r _ [18, 19, 20, 21, 9, 22, 23, 24, 25, 26, 3, 27, 28, 29, 30, 31, 32, 33, 34, 43, 44, 45, 46, 47, 48, 49, 50, 51, 52] (by decide +kernel) (by decide +kernel)
set_option maxRecDepth 20000 in
theorem gX6_move_X6_bars : GoodIn wsX6_move (wsV RX6 102 RX6 yX6_bars wsX6_bars) := goodIn_app (goodIn_of _ (by decide +kernel)) ggX6_move_X6_bars
set_option maxRecDepth 20000 in
theorem ggX6_move_X6_isOfObjects : GoodIn wsX6_move wsX6_isOfObjects := goodIn_r _ [30, 23, 24, 25, 9, 26, 3, 43, 44, 45, 46, 47, 48, 49, 50, 51, 52] (by decide +kernel) (by decide +kernel)
set_option maxRecDepth 20000 in
theorem gX6_move_X6_isOfObjects : GoodIn wsX6_move (wsV RX6 70 RX6 yX6_isOfObjects wsX6_isOfObjects) := goodIn_app (goodIn_of _ (by decide +kernel)) ggX6_move_X6_isOfObjects
set_option maxRecDepth 20000 in
theorem ggX6_move_X6_object : GoodIn wsX6_move wsX6_object := goodIn_r _ [38, 3, 43, 44, 45, 46, 47, 48, 49, 50, 51, 52] (by decide +kernel) (by decide +kernel)
set_option maxRecDepth 20000 in
theorem gX6_move_X6_object : GoodIn wsX6_move (wsV RX6 84 RX6 yX6_object wsX6_object) := goodIn_app (goodIn_of _ (by decide +kernel)) ggX6_move_X6_object
set_option maxRecDepth 20000 in
theorem ggX6_move_X6_kind : GoodIn wsX6_move wsX6_kind := goodIn_r _ [26, 3, 43, 44, 45, 46, 47, 48, 49, 50, 51, 52] (by decide +kernel) (by decide +kernel)
set_option maxRecDepth 20000 in
theorem gX6_move_X6_kind : GoodIn wsX6_move (wsV RX6 25 RX6 yX6_kind wsX6_kind) := goodIn_app (goodIn_of _ (by decide +kernel)) ggX6_move_X6_kind
set_option maxRecDepth 20000 in
theorem ggX6_move_X6_fits : GoodIn wsX6_move wsX6_fits := goodIn_r _ [42, 23, 24, 25, 9, 26, 3, 43, 44, 45, 46, 47, 48, 49, 50, 51, 52] (by decide +kernel) (by decide +kernel)
set_option maxRecDepth 20000 in
theorem gX6_move_X6_fits : GoodIn wsX6_move (wsV RX6 81 RX6 yX6_fits wsX6_fits) := goodIn_app (goodIn_of _ (by decide +kernel)) ggX6_move_X6_fits
theorem dX6_move_0 : decode cX6_move 0 = .ok (.aload_n 0, 1) := by decide +kernel
theorem dX6_move_1 : decode cX6_move 1 = .ok (.iload_n 1, 1) := by decide +kernel
theorem dX6_move_2 : decode cX6_move 2 = .ok (.invokevirtual 50, 3) := by decide +kernel
theorem dX6_move_5 : decode cX6_move 5 = .ok (.istore 6, 2) := by decide +kernel
theorem dX6_move_7 : decode cX6_move 7 = .ok (.aload_n 0, 1) := by decide +kernel
theorem dX6_move_8 : decode cX6_move 8 = .ok (.iload_n 3, 1) := by decide +kernel
theorem dX6_move_9 : decode cX6_move 9 = .ok (.invokevirtual 50, 3) := by decide +kernel
theorem dX6_move_12 : decode cX6_move 12 = .ok (.istore 7, 2) := by decide +kernel
theorem dX6_move_14 : decode cX6_move 14 = .ok (.aload_n 0, 1) := by decide +kernel
theorem dX6_move_15 : decode cX6_move 15 = .ok (.iconst 0, 1) := by decide +kernel
theorem dX6_move_16 : decode cX6_move 16 = .ok (.putfield 99, 3) := by decide +kernel
theorem dX6_move_19 : decode cX6_move 19 = .ok (.aload_n 0, 1) := by decide +kernel
theorem dX6_move_20 : decode cX6_move 20 = .ok (.aload_n 0, 1) := by decide +kernel
theorem dX6_move_21 : decode cX6_move 21 = .ok (.iload 6, 2) := by decide +kernel
theorem dX6_move_23 : decode cX6_move 23 = .ok (.iload_n 2, 1) := by decide +kernel
theorem dX6_move_24 : decode cX6_move 24 = .ok (.iload 7, 2) := by decide +kernel
theorem dX6_move_26 : decode cX6_move 26 = .ok (.iload 4, 2) := by decide +kernel
theorem dX6_move_28 : decode cX6_move 28 = .ok (.iload 5, 2) := by decide +kernel
theorem dX6_move_30 : decode cX6_move 30 = .ok (.invokevirtual 102, 3) := by decide +kernel
theorem dX6_move_33 : decode cX6_move 33 = .ok (.putfield 106, 3) := by decide +kernel
theorem dX6_move_36 : decode cX6_move 36 = .ok (.aload_n 0, 1) := by decide +kernel
theorem dX6_move_37 : decode cX6_move 37 = .ok (.getfield 106, 3) := by decide +kernel
theorem dX6_move_40 : decode cX6_move 40 = .ok (.ifCond .ne 157, 3) := by decide +kernel
theorem dX6_move_43 : decode cX6_move 43 = .ok (.iconst 0, 1) := by decide +kernel
theorem dX6_move_44 : decode cX6_move 44 = .ok (.istore 8, 2) := by decide +kernel
theorem dX6_move_46 : decode cX6_move 46 = .ok (.iload 8, 2) := by decide +kernel
theorem dX6_move_48 : decode cX6_move 48 = .ok (.iload 5, 2) := by decide +kernel
theorem dX6_move_50 : decode cX6_move 50 = .ok (.if_icmp .ge 41, 3) := by decide +kernel
theorem dX6_move_53 : decode cX6_move 53 = .ok (.aload_n 0, 1) := by decide +kernel
theorem dX6_move_54 : decode cX6_move 54 = .ok (.iload 7, 2) := by decide +kernel
theorem dX6_move_56 : decode cX6_move 56 = .ok (.invokevirtual 70, 3) := by decide +kernel
theorem dX6_move_59 : decode cX6_move 59 = .ok (.ifCond .eq 26, 3) := by decide +kernel
theorem dX6_move_62 : decode cX6_move 62 = .ok (.aload_n 0, 1) := by decide +kernel
theorem dX6_move_63 : decode cX6_move 63 = .ok (.aload_n 0, 1) := by decide +kernel
theorem dX6_move_64 : decode cX6_move 64 = .ok (.iload 6, 2) := by decide +kernel
theorem dX6_move_66 : decode cX6_move 66 = .ok (.iload_n 2, 1) := by decide +kernel
theorem dX6_move_67 : decode cX6_move 67 = .ok (.iload 8, 2) := by decide +kernel
theorem dX6_move_69 : decode cX6_move 69 = .ok (.iadd, 1) := by decide +kernel
theorem dX6_move_70 : decode cX6_move 70 = .ok (.invokevirtual 84, 3) := by decide +kernel
theorem dX6_move_73 : decode cX6_move 73 = .ok (.aload_n 0, 1) := by decide +kernel
theorem dX6_move_74 : decode cX6_move 74 = .ok (.iload 7, 2) := by decide +kernel
theorem dX6_move_76 : decode cX6_move 76 = .ok (.invokevirtual 25, 3) := by decide +kernel
theorem dX6_move_79 : decode cX6_move 79 = .ok (.invokevirtual 81, 3) := by decide +kernel
theorem dX6_move_82 : decode cX6_move 82 = .ok (.ifCond .eq 9, 3) := by decide +kernel
theorem dX6_move_85 : decode cX6_move 85 = .ok (.iinc 8 1, 3) := by decide +kernel
theorem dX6_move_88 : decode cX6_move 88 = .ok (.goto (-42), 3) := by decide +kernel
theorem dX6_move_91 : decode cX6_move 91 = .ok (.iload 6, 2) := by decide +kernel
theorem dX6_move_93 : decode cX6_move 93 = .ok (.iload 7, 2) := by decide +kernel
theorem dX6_move_95 : decode cX6_move 95 = .ok (.if_icmp .ne 13, 3) := by decide +kernel
theorem dX6_move_98 : decode cX6_move 98 = .ok (.iload_n 2, 1) := by decide +kernel
theorem dX6_move_99 : decode cX6_move 99 = .ok (.iload 4, 2) := by decide +kernel
theorem dX6_move_101 : decode cX6_move 101 = .ok (.if_icmp .ge 7, 3) := by decide +kernel
theorem dX6_move_104 : decode cX6_move 104 = .ok (.iconst 1, 1) := by decide +kernel
theorem dX6_move_105 : decode cX6_move 105 = .ok (.goto 4, 3) := by decide +kernel
theorem dX6_move_108 : decode cX6_move 108 = .ok (.iconst 0, 1) := by decide +kernel
theorem dX6_move_109 : decode cX6_move 109 = .ok (.istore 9, 2) := by decide +kernel
theorem dX6_move_111 : decode cX6_move 111 = .ok (.iconst 0, 1) := by decide +kernel
theorem dX6_move_112 : decode cX6_move 112 = .ok (.istore 10, 2) := by decide +kernel
theorem dX6_move_114 : decode cX6_move 114 = .ok (.iload 10, 2) := by decide +kernel
theorem dX6_move_116 : decode cX6_move 116 = .ok (.iload 8, 2) := by decide +kernel
theorem dX6_move_118 : decode cX6_move 118 = .ok (.if_icmp .ge 57, 3) := by decide +kernel
theorem dX6_move_121 : decode cX6_move 121 = .ok (.iload 9, 2) := by decide +kernel
theorem dX6_move_123 : decode cX6_move 123 = .ok (.ifCond .eq 13, 3) := by decide +kernel
theorem dX6_move_126 : decode cX6_move 126 = .ok (.iload 8, 2) := by decide +kernel
theorem dX6_move_128 : decode cX6_move 128 = .ok (.iconst 1, 1) := by decide +kernel
theorem dX6_move_129 : decode cX6_move 129 = .ok (.isub, 1) := by decide +kernel
theorem dX6_move_130 : decode cX6_move 130 = .ok (.iload 10, 2) := by decide +kernel
theorem dX6_move_132 : decode cX6_move 132 = .ok (.isub, 1) := by decide +kernel
theorem dX6_move_133 : decode cX6_move 133 = .ok (.goto 5, 3) := by decide +kernel
theorem dX6_move_136 : decode cX6_move 136 = .ok (.iload 10, 2) := by decide +kernel
theorem dX6_move_138 : decode cX6_move 138 = .ok (.istore 11, 2) := by decide +kernel
theorem dX6_move_140 : decode cX6_move 140 = .ok (.aload_n 0, 1) := by decide +kernel
theorem dX6_move_141 : decode cX6_move 141 = .ok (.getfield 8, 3) := by decide +kernel
theorem dX6_move_144 : decode cX6_move 144 = .ok (.iload 7, 2) := by decide +kernel
theorem dX6_move_146 : decode cX6_move 146 = .ok (.iconst 1, 1) := by decide +kernel
theorem dX6_move_147 : decode cX6_move 147 = .ok (.iadd, 1) := by decide +kernel
theorem dX6_move_148 : decode cX6_move 148 = .ok (.iload 4, 2) := by decide +kernel
theorem dX6_move_150 : decode cX6_move 150 = .ok (.iadd, 1) := by decide +kernel
theorem dX6_move_151 : decode cX6_move 151 = .ok (.iload 11, 2) := by decide +kernel
theorem dX6_move_153 : decode cX6_move 153 = .ok (.iadd, 1) := by decide +kernel
theorem dX6_move_154 : decode cX6_move 154 = .ok (.aload_n 0, 1) := by decide +kernel
theorem dX6_move_155 : decode cX6_move 155 = .ok (.getfield 8, 3) := by decide +kernel
theorem dX6_move_158 : decode cX6_move 158 = .ok (.iload 6, 2) := by decide +kernel
theorem dX6_move_160 : decode cX6_move 160 = .ok (.iconst 1, 1) := by decide +kernel
theorem dX6_move_161 : decode cX6_move 161 = .ok (.iadd, 1) := by decide +kernel
theorem dX6_move_162 : decode cX6_move 162 = .ok (.iload_n 2, 1) := by decide +kernel
theorem dX6_move_163 : decode cX6_move 163 = .ok (.iadd, 1) := by decide +kernel
theorem dX6_move_164 : decode cX6_move 164 = .ok (.iload 11, 2) := by decide +kernel
theorem dX6_move_166 : decode cX6_move 166 = .ok (.iadd, 1) := by decide +kernel
theorem dX6_move_167 : decode cX6_move 167 = .ok (.laload, 1) := by decide +kernel
theorem dX6_move_168 : decode cX6_move 168 = .ok (.lastore, 1) := by decide +kernel
theorem dX6_move_169 : decode cX6_move 169 = .ok (.iinc 10 1, 3) := by decide +kernel
theorem dX6_move_172 : decode cX6_move 172 = .ok (.goto (-58), 3) := by decide +kernel
theorem dX6_move_175 : decode cX6_move 175 = .ok (.aload_n 0, 1) := by decide +kernel
theorem dX6_move_176 : decode cX6_move 176 = .ok (.iload 8, 2) := by decide +kernel
theorem dX6_move_178 : decode cX6_move 178 = .ok (.putfield 99, 3) := by decide +kernel
theorem dX6_move_181 : decode cX6_move 181 = .ok (.aload_n 0, 1) := by decide +kernel
theorem dX6_move_182 : decode cX6_move 182 = .ok (.iload 8, 2) := by decide +kernel
theorem dX6_move_184 : decode cX6_move 184 = .ok (.iload 5, 2) := by decide +kernel
theorem dX6_move_186 : decode cX6_move 186 = .ok (.if_icmp .ge 7, 3) := by decide +kernel
theorem dX6_move_189 : decode cX6_move 189 = .ok (.iconst 5, 1) := by decide +kernel
theorem dX6_move_190 : decode cX6_move 190 = .ok (.goto 4, 3) := by decide +kernel
theorem dX6_move_193 : decode cX6_move 193 = .ok (.iconst 0, 1) := by decide +kernel
theorem dX6_move_194 : decode cX6_move 194 = .ok (.putfield 106, 3) := by decide +kernel
theorem dX6_move_197 : decode cX6_move 197 = .ok (.aload_n 0, 1) := by decide +kernel
theorem dX6_move_198 : decode cX6_move 198 = .ok (.getfield 106, 3) := by decide +kernel
theorem dX6_move_201 : decode cX6_move 201 = .ok (.ifCond .ne 16, 3) := by decide +kernel
theorem dX6_move_204 : decode cX6_move 204 = .ok (.aload_n 0, 1) := by decide +kernel
theorem dX6_move_205 : decode cX6_move 205 = .ok (.dup, 1) := by decide +kernel
theorem dX6_move_206 : decode cX6_move 206 = .ok (.getfield 109, 3) := by decide +kernel
theorem dX6_move_209 : decode cX6_move 209 = .ok (.iconst 1, 1) := by decide +kernel
theorem dX6_move_210 : decode cX6_move 210 = .ok (.iadd, 1) := by decide +kernel
theorem dX6_move_211 : decode cX6_move 211 = .ok (.putfield 109, 3) := by decide +kernel
theorem dX6_move_214 : decode cX6_move 214 = .ok (.goto 13, 3) := by decide +kernel
theorem dX6_move_217 : decode cX6_move 217 = .ok (.aload_n 0, 1) := by decide +kernel
theorem dX6_move_218 : decode cX6_move 218 = .ok (.dup, 1) := by decide +kernel
theorem dX6_move_219 : decode cX6_move 219 = .ok (.getfield 112, 3) := by decide +kernel
theorem dX6_move_222 : decode cX6_move 222 = .ok (.iconst 1, 1) := by decide +kernel
theorem dX6_move_223 : decode cX6_move 223 = .ok (.iadd, 1) := by decide +kernel
theorem dX6_move_224 : decode cX6_move 224 = .ok (.putfield 112, 3) := by decide +kernel
theorem dX6_move_227 : decode cX6_move 227 = .ok (.aload_n 0, 1) := by decide +kernel
theorem dX6_move_228 : decode cX6_move 228 = .ok (.getfield 106, 3) := by decide +kernel
theorem dX6_move_231 : decode cX6_move 231 = .ok (.ireturn, 1) := by decide +kernel
theorem dX6_moved_0 : decode cX6_moved 0 = .ok (.aload_n 0, 1) := by decide +kernel
theorem dX6_moved_1 : decode cX6_moved 1 = .ok (.getfield 99, 3) := by decide +kernel
theorem dX6_moved_4 : decode cX6_moved 4 = .ok (.ireturn, 1) := by decide +kernel
theorem dX6_plan_0 : decode cX6_plan 0 = .ok (.aload_n 0, 1) := by decide +kernel
theorem dX6_plan_1 : decode cX6_plan 1 = .ok (.getfield 115, 3) := by decide +kernel
theorem dX6_plan_4 : decode cX6_plan 4 = .ok (.bipush 64, 2) := by decide +kernel
theorem dX6_plan_6 : decode cX6_plan 6 = .ok (.if_icmp .ne 5, 3) := by decide +kernel
theorem dX6_plan_9 : decode cX6_plan 9 = .ok (.iconst (-1), 1) := by decide +kernel
theorem dX6_plan_10 : decode cX6_plan 10 = .ok (.ireturn, 1) := by decide +kernel
theorem dX6_plan_11 : decode cX6_plan 11 = .ok (.aload_n 0, 1) := by decide +kernel
theorem dX6_plan_12 : decode cX6_plan 12 = .ok (.getfield 18, 3) := by decide +kernel
theorem dX6_plan_15 : decode cX6_plan 15 = .ok (.iconst 5, 1) := by decide +kernel
theorem dX6_plan_16 : decode cX6_plan 16 = .ok (.aload_n 0, 1) := by decide +kernel
theorem dX6_plan_17 : decode cX6_plan 17 = .ok (.getfield 115, 3) := by decide +kernel
theorem dX6_plan_20 : decode cX6_plan 20 = .ok (.imul, 1) := by decide +kernel
theorem dX6_plan_21 : decode cX6_plan 21 = .ok (.iload_n 1, 1) := by decide +kernel
theorem dX6_plan_22 : decode cX6_plan 22 = .ok (.iastore, 1) := by decide +kernel
theorem dX6_plan_23 : decode cX6_plan 23 = .ok (.aload_n 0, 1) := by decide +kernel
theorem dX6_plan_24 : decode cX6_plan 24 = .ok (.getfield 18, 3) := by decide +kernel
theorem dX6_plan_27 : decode cX6_plan 27 = .ok (.iconst 5, 1) := by decide +kernel
theorem dX6_plan_28 : decode cX6_plan 28 = .ok (.aload_n 0, 1) := by decide +kernel
theorem dX6_plan_29 : decode cX6_plan 29 = .ok (.getfield 115, 3) := by decide +kernel
theorem dX6_plan_32 : decode cX6_plan 32 = .ok (.imul, 1) := by decide +kernel
theorem dX6_plan_33 : decode cX6_plan 33 = .ok (.iconst 1, 1) := by decide +kernel
theorem dX6_plan_34 : decode cX6_plan 34 = .ok (.iadd, 1) := by decide +kernel
theorem dX6_plan_35 : decode cX6_plan 35 = .ok (.iload_n 2, 1) := by decide +kernel
theorem dX6_plan_36 : decode cX6_plan 36 = .ok (.iastore, 1) := by decide +kernel
theorem dX6_plan_37 : decode cX6_plan 37 = .ok (.aload_n 0, 1) := by decide +kernel
theorem dX6_plan_38 : decode cX6_plan 38 = .ok (.getfield 18, 3) := by decide +kernel
theorem dX6_plan_41 : decode cX6_plan 41 = .ok (.iconst 5, 1) := by decide +kernel
theorem dX6_plan_42 : decode cX6_plan 42 = .ok (.aload_n 0, 1) := by decide +kernel
theorem dX6_plan_43 : decode cX6_plan 43 = .ok (.getfield 115, 3) := by decide +kernel
theorem dX6_plan_46 : decode cX6_plan 46 = .ok (.imul, 1) := by decide +kernel
theorem dX6_plan_47 : decode cX6_plan 47 = .ok (.iconst 2, 1) := by decide +kernel
theorem dX6_plan_48 : decode cX6_plan 48 = .ok (.iadd, 1) := by decide +kernel
theorem dX6_plan_49 : decode cX6_plan 49 = .ok (.iload_n 3, 1) := by decide +kernel
theorem dX6_plan_50 : decode cX6_plan 50 = .ok (.iastore, 1) := by decide +kernel
theorem dX6_plan_51 : decode cX6_plan 51 = .ok (.aload_n 0, 1) := by decide +kernel
theorem dX6_plan_52 : decode cX6_plan 52 = .ok (.getfield 18, 3) := by decide +kernel
theorem dX6_plan_55 : decode cX6_plan 55 = .ok (.iconst 5, 1) := by decide +kernel
theorem dX6_plan_56 : decode cX6_plan 56 = .ok (.aload_n 0, 1) := by decide +kernel
theorem dX6_plan_57 : decode cX6_plan 57 = .ok (.getfield 115, 3) := by decide +kernel
theorem dX6_plan_60 : decode cX6_plan 60 = .ok (.imul, 1) := by decide +kernel
theorem dX6_plan_61 : decode cX6_plan 61 = .ok (.iconst 3, 1) := by decide +kernel
theorem dX6_plan_62 : decode cX6_plan 62 = .ok (.iadd, 1) := by decide +kernel
theorem dX6_plan_63 : decode cX6_plan 63 = .ok (.iload 4, 2) := by decide +kernel
theorem dX6_plan_65 : decode cX6_plan 65 = .ok (.iastore, 1) := by decide +kernel
theorem dX6_plan_66 : decode cX6_plan 66 = .ok (.aload_n 0, 1) := by decide +kernel
theorem dX6_plan_67 : decode cX6_plan 67 = .ok (.getfield 18, 3) := by decide +kernel
theorem dX6_plan_70 : decode cX6_plan 70 = .ok (.iconst 5, 1) := by decide +kernel
theorem dX6_plan_71 : decode cX6_plan 71 = .ok (.aload_n 0, 1) := by decide +kernel
theorem dX6_plan_72 : decode cX6_plan 72 = .ok (.getfield 115, 3) := by decide +kernel
theorem dX6_plan_75 : decode cX6_plan 75 = .ok (.imul, 1) := by decide +kernel
theorem dX6_plan_76 : decode cX6_plan 76 = .ok (.iconst 4, 1) := by decide +kernel
theorem dX6_plan_77 : decode cX6_plan 77 = .ok (.iadd, 1) := by decide +kernel
theorem dX6_plan_78 : decode cX6_plan 78 = .ok (.iload 5, 2) := by decide +kernel
theorem dX6_plan_80 : decode cX6_plan 80 = .ok (.iastore, 1) := by decide +kernel
theorem dX6_plan_81 : decode cX6_plan 81 = .ok (.aload_n 0, 1) := by decide +kernel
theorem dX6_plan_82 : decode cX6_plan 82 = .ok (.dup, 1) := by decide +kernel
theorem dX6_plan_83 : decode cX6_plan 83 = .ok (.getfield 115, 3) := by decide +kernel
theorem dX6_plan_86 : decode cX6_plan 86 = .ok (.iconst 1, 1) := by decide +kernel
theorem dX6_plan_87 : decode cX6_plan 87 = .ok (.iadd, 1) := by decide +kernel
theorem dX6_plan_88 : decode cX6_plan 88 = .ok (.putfield 115, 3) := by decide +kernel
theorem dX6_plan_91 : decode cX6_plan 91 = .ok (.aload_n 0, 1) := by decide +kernel
theorem dX6_plan_92 : decode cX6_plan 92 = .ok (.getfield 115, 3) := by decide +kernel
theorem dX6_plan_95 : decode cX6_plan 95 = .ok (.ireturn, 1) := by decide +kernel
set_option maxRecDepth 20000 in
theorem ggX6_run_X6_move : GoodIn wsX6_run wsX6_move := goodIn_r _ [7, 8, 9, 10, 11, 12, 13, 14, 15, 6, 16, 17, 18, 19, 20, 21, 22, 23, 24, 25, 26, 27, 28, 29, 30, 31, 32, 33, 34, 35, 36, 37, 38, 39, 40, 41, 42, 43, 44, 45, 46, 47, 48, 49, 50, 51, 52, 53, 54, 55, 56, 57, 58] (by decide +kernel) (by decide +kernel)
set_option maxRecDepth 20000 in
theorem gX6_run_X6_move : GoodIn wsX6_run (wsV RX6 118 RX6 yX6_move wsX6_move) := goodIn_app (goodIn_of _ (by decide +kernel)) ggX6_run_X6_move
theorem dX6_run_0 : decode cX6_run 0 = .ok (.iconst 0, 1) := by decide +kernel
theorem dX6_run_1 : decode cX6_run 1 = .ok (.istore_n 1, 1) := by decide +kernel
theorem dX6_run_2 : decode cX6_run 2 = .ok (.iconst 1, 1) := by decide +kernel
theorem dX6_run_3 : decode cX6_run 3 = .ok (.istore_n 2, 1) := by decide +kernel
theorem dX6_run_4 : decode cX6_run 4 = .ok (.iconst 0, 1) := by decide +kernel
theorem dX6_run_5 : decode cX6_run 5 = .ok (.istore_n 3, 1) := by decide +kernel
theorem dX6_run_6 : decode cX6_run 6 = .ok (.iload_n 3, 1) := by decide +kernel
theorem dX6_run_7 : decode cX6_run 7 = .ok (.aload_n 0, 1) := by decide +kernel
theorem dX6_run_8 : decode cX6_run 8 = .ok (.getfield 115, 3) := by decide +kernel
theorem dX6_run_11 : decode cX6_run 11 = .ok (.if_icmp .ge 81, 3) := by decide +kernel
theorem dX6_run_14 : decode cX6_run 14 = .ok (.iload_n 2, 1) := by decide +kernel
theorem dX6_run_15 : decode cX6_run 15 = .ok (.ifCond .eq 77, 3) := by decide +kernel
theorem dX6_run_18 : decode cX6_run 18 = .ok (.iconst 5, 1) := by decide +kernel
theorem dX6_run_19 : decode cX6_run 19 = .ok (.iload_n 3, 1) := by decide +kernel
theorem dX6_run_20 : decode cX6_run 20 = .ok (.imul, 1) := by decide +kernel
theorem dX6_run_21 : decode cX6_run 21 = .ok (.istore 4, 2) := by decide +kernel
theorem dX6_run_23 : decode cX6_run 23 = .ok (.aload_n 0, 1) := by decide +kernel
theorem dX6_run_24 : decode cX6_run 24 = .ok (.aload_n 0, 1) := by decide +kernel
theorem dX6_run_25 : decode cX6_run 25 = .ok (.getfield 18, 3) := by decide +kernel
theorem dX6_run_28 : decode cX6_run 28 = .ok (.iload 4, 2) := by decide +kernel
theorem dX6_run_30 : decode cX6_run 30 = .ok (.iaload, 1) := by decide +kernel
theorem dX6_run_31 : decode cX6_run 31 = .ok (.aload_n 0, 1) := by decide +kernel
theorem dX6_run_32 : decode cX6_run 32 = .ok (.getfield 18, 3) := by decide +kernel
theorem dX6_run_35 : decode cX6_run 35 = .ok (.iload 4, 2) := by decide +kernel
theorem dX6_run_37 : decode cX6_run 37 = .ok (.iconst 1, 1) := by decide +kernel
theorem dX6_run_38 : decode cX6_run 38 = .ok (.iadd, 1) := by decide +kernel
theorem dX6_run_39 : decode cX6_run 39 = .ok (.iaload, 1) := by decide +kernel
theorem dX6_run_40 : decode cX6_run 40 = .ok (.aload_n 0, 1) := by decide +kernel
theorem dX6_run_41 : decode cX6_run 41 = .ok (.getfield 18, 3) := by decide +kernel
theorem dX6_run_44 : decode cX6_run 44 = .ok (.iload 4, 2) := by decide +kernel
theorem dX6_run_46 : decode cX6_run 46 = .ok (.iconst 2, 1) := by decide +kernel
theorem dX6_run_47 : decode cX6_run 47 = .ok (.iadd, 1) := by decide +kernel
theorem dX6_run_48 : decode cX6_run 48 = .ok (.iaload, 1) := by decide +kernel
theorem dX6_run_49 : decode cX6_run 49 = .ok (.aload_n 0, 1) := by decide +kernel
theorem dX6_run_50 : decode cX6_run 50 = .ok (.getfield 18, 3) := by decide +kernel
theorem dX6_run_53 : decode cX6_run 53 = .ok (.iload 4, 2) := by decide +kernel
theorem dX6_run_55 : decode cX6_run 55 = .ok (.iconst 3, 1) := by decide +kernel
theorem dX6_run_56 : decode cX6_run 56 = .ok (.iadd, 1) := by decide +kernel
theorem dX6_run_57 : decode cX6_run 57 = .ok (.iaload, 1) := by decide +kernel
theorem dX6_run_58 : decode cX6_run 58 = .ok (.aload_n 0, 1) := by decide +kernel
theorem dX6_run_59 : decode cX6_run 59 = .ok (.getfield 18, 3) := by decide +kernel
theorem dX6_run_62 : decode cX6_run 62 = .ok (.iload 4, 2) := by decide +kernel
theorem dX6_run_64 : decode cX6_run 64 = .ok (.iconst 4, 1) := by decide +kernel
theorem dX6_run_65 : decode cX6_run 65 = .ok (.iadd, 1) := by decide +kernel
theorem dX6_run_66 : decode cX6_run 66 = .ok (.iaload, 1) := by decide +kernel
theorem dX6_run_67 : decode cX6_run 67 = .ok (.invokevirtual 118, 3) := by decide +kernel
theorem dX6_run_70 : decode cX6_run 70 = .ok (.ifCond .ne 7, 3) := by decide +kernel
theorem dX6_run_73 : decode cX6_run 73 = .ok (.iconst 1, 1) := by decide +kernel
theorem dX6_run_74 : decode cX6_run 74 = .ok (.goto 4, 3) := by decide +kernel
theorem dX6_run_77 : decode cX6_run 77 = .ok (.iconst 0, 1) := by decide +kernel
theorem dX6_run_78 : decode cX6_run 78 = .ok (.istore_n 2, 1) := by decide +kernel
theorem dX6_run_79 : decode cX6_run 79 = .ok (.iload_n 2, 1) := by decide +kernel
theorem dX6_run_80 : decode cX6_run 80 = .ok (.ifCond .eq 6, 3) := by decide +kernel
theorem dX6_run_83 : decode cX6_run 83 = .ok (.iinc 1 1, 3) := by decide +kernel
theorem dX6_run_86 : decode cX6_run 86 = .ok (.iinc 3 1, 3) := by decide +kernel
theorem dX6_run_89 : decode cX6_run 89 = .ok (.goto (-83), 3) := by decide +kernel
theorem dX6_run_92 : decode cX6_run 92 = .ok (.aload_n 0, 1) := by decide +kernel
theorem dX6_run_93 : decode cX6_run 93 = .ok (.iconst 0, 1) := by decide +kernel
theorem dX6_run_94 : decode cX6_run 94 = .ok (.putfield 115, 3) := by decide +kernel
theorem dX6_run_97 : decode cX6_run 97 = .ok (.iload_n 1, 1) := by decide +kernel
theorem dX6_run_98 : decode cX6_run 98 = .ok (.ireturn, 1) := by decide +kernel
theorem dX6_ended_0 : decode cX6_ended 0 = .ok (.aload_n 0, 1) := by decide +kernel
theorem dX6_ended_1 : decode cX6_ended 1 = .ok (.getfield 106, 3) := by decide +kernel
theorem dX6_ended_4 : decode cX6_ended 4 = .ok (.ireturn, 1) := by decide +kernel
set_option maxRecDepth 20000 in
theorem ggX6_clear_X6_in : GoodIn wsX6_clear wsX6_in := goodIn_r _ [6, 1, 7, 8, 5, 9, 10, 11, 12, 13, 14, 15, 16, 17, 18, 19] (by decide +kernel) (by decide +kernel)
set_option maxRecDepth 20000 in
theorem gX6_clear_X6_in : GoodIn wsX6_clear (wsV RX6 50 RX6 yX6_in wsX6_in) := goodIn_app (goodIn_of _ (by decide +kernel)) ggX6_clear_X6_in
theorem dX6_clear_0 : decode cX6_clear 0 = .ok (.aload_n 0, 1) := by decide +kernel
theorem dX6_clear_1 : decode cX6_clear 1 = .ok (.iload_n 1, 1) := by decide +kernel
theorem dX6_clear_2 : decode cX6_clear 2 = .ok (.invokevirtual 50, 3) := by decide +kernel
theorem dX6_clear_5 : decode cX6_clear 5 = .ok (.ifCond .ge 5, 3) := by decide +kernel
theorem dX6_clear_8 : decode cX6_clear 8 = .ok (.iconst 0, 1) := by decide +kernel
theorem dX6_clear_9 : decode cX6_clear 9 = .ok (.ireturn, 1) := by decide +kernel
theorem dX6_clear_10 : decode cX6_clear 10 = .ok (.aload_n 0, 1) := by decide +kernel
theorem dX6_clear_11 : decode cX6_clear 11 = .ok (.getfield 14, 3) := by decide +kernel
theorem dX6_clear_14 : decode cX6_clear 14 = .ok (.iload_n 1, 1) := by decide +kernel
theorem dX6_clear_15 : decode cX6_clear 15 = .ok (.iconst 0, 1) := by decide +kernel
theorem dX6_clear_16 : decode cX6_clear 16 = .ok (.iastore, 1) := by decide +kernel
theorem dX6_clear_17 : decode cX6_clear 17 = .ok (.iconst 1, 1) := by decide +kernel
theorem dX6_clear_18 : decode cX6_clear 18 = .ok (.ireturn, 1) := by decide +kernel
set_option maxRecDepth 20000 in
theorem ggX6_same_X6_in : GoodIn wsX6_same wsX6_in := goodIn_r _ [5, 6, 7, 8, 4, 9, 10, 11, 12, 13, 14, 15, 16, 17, 18, 19] (by decide +kernel) (by decide +kernel)
set_option maxRecDepth 20000 in
theorem gX6_same_X6_in : GoodIn wsX6_same (wsV RX6 50 RX6 yX6_in wsX6_in) := goodIn_app (goodIn_of _ (by decide +kernel)) ggX6_same_X6_in
theorem dX6_same_0 : decode cX6_same 0 = .ok (.aload_n 0, 1) := by decide +kernel
theorem dX6_same_1 : decode cX6_same 1 = .ok (.iload_n 1, 1) := by decide +kernel
theorem dX6_same_2 : decode cX6_same 2 = .ok (.invokevirtual 50, 3) := by decide +kernel
theorem dX6_same_5 : decode cX6_same 5 = .ok (.ifCond .lt 11, 3) := by decide +kernel
theorem dX6_same_8 : decode cX6_same 8 = .ok (.aload_n 0, 1) := by decide +kernel
theorem dX6_same_9 : decode cX6_same 9 = .ok (.iload_n 2, 1) := by decide +kernel
theorem dX6_same_10 : decode cX6_same 10 = .ok (.invokevirtual 50, 3) := by decide +kernel
theorem dX6_same_13 : decode cX6_same 13 = .ok (.ifCond .ge 5, 3) := by decide +kernel
theorem dX6_same_16 : decode cX6_same 16 = .ok (.iconst (-1), 1) := by decide +kernel
theorem dX6_same_17 : decode cX6_same 17 = .ok (.ireturn, 1) := by decide +kernel
theorem dX6_same_18 : decode cX6_same 18 = .ok (.aload_n 0, 1) := by decide +kernel
theorem dX6_same_19 : decode cX6_same 19 = .ok (.iload_n 1, 1) := by decide +kernel
theorem dX6_same_20 : decode cX6_same 20 = .ok (.invokevirtual 50, 3) := by decide +kernel
theorem dX6_same_23 : decode cX6_same 23 = .ok (.aload_n 0, 1) := by decide +kernel
theorem dX6_same_24 : decode cX6_same 24 = .ok (.iload_n 2, 1) := by decide +kernel
theorem dX6_same_25 : decode cX6_same 25 = .ok (.invokevirtual 50, 3) := by decide +kernel
theorem dX6_same_28 : decode cX6_same 28 = .ok (.if_icmp .ne 7, 3) := by decide +kernel
theorem dX6_same_31 : decode cX6_same 31 = .ok (.iconst 1, 1) := by decide +kernel
theorem dX6_same_32 : decode cX6_same 32 = .ok (.goto 4, 3) := by decide +kernel
theorem dX6_same_35 : decode cX6_same 35 = .ok (.iconst 0, 1) := by decide +kernel
theorem dX6_same_36 : decode cX6_same 36 = .ok (.ireturn, 1) := by decide +kernel
set_option maxRecDepth 20000 in
theorem ggX6_summed_X6_kind : GoodIn wsX6_summed wsX6_kind := goodIn_r _ [7, 2, 12, 13, 14, 15, 16, 17, 18, 19, 20, 21] (by decide +kernel) (by decide +kernel)
set_option maxRecDepth 20000 in
theorem gX6_summed_X6_kind : GoodIn wsX6_summed (wsV RX6 25 RX6 yX6_kind wsX6_kind) := goodIn_app (goodIn_of _ (by decide +kernel)) ggX6_summed_X6_kind
set_option maxRecDepth 20000 in
theorem ggX6_summed_X6_low : GoodIn wsX6_summed wsX6_low := goodIn_r _ [11, 2, 12, 13, 14, 15, 16, 17, 18, 19, 20, 21] (by decide +kernel) (by decide +kernel)
set_option maxRecDepth 20000 in
theorem gX6_summed_X6_low : GoodIn wsX6_summed (wsV RX6 29 RX6 yX6_low wsX6_low) := goodIn_app (goodIn_of _ (by decide +kernel)) ggX6_summed_X6_low
theorem dX6_summed_0 : decode cX6_summed 0 = .ok (.aload_n 0, 1) := by decide +kernel
theorem dX6_summed_1 : decode cX6_summed 1 = .ok (.iload_n 1, 1) := by decide +kernel
theorem dX6_summed_2 : decode cX6_summed 2 = .ok (.invokevirtual 25, 3) := by decide +kernel
theorem dX6_summed_5 : decode cX6_summed 5 = .ok (.i2l, 1) := by decide +kernel
theorem dX6_summed_6 : decode cX6_summed 6 = .ok (.lconst 1, 1) := by decide +kernel
theorem dX6_summed_7 : decode cX6_summed 7 = .ok (.ladd, 1) := by decide +kernel
theorem dX6_summed_8 : decode cX6_summed 8 = .ok (.lstore_n 2, 1) := by decide +kernel
theorem dX6_summed_9 : decode cX6_summed 9 = .ok (.iconst 0, 1) := by decide +kernel
theorem dX6_summed_10 : decode cX6_summed 10 = .ok (.istore 4, 2) := by decide +kernel
theorem dX6_summed_12 : decode cX6_summed 12 = .ok (.iload 4, 2) := by decide +kernel
theorem dX6_summed_14 : decode cX6_summed 14 = .ok (.aload_n 0, 1) := by decide +kernel
theorem dX6_summed_15 : decode cX6_summed 15 = .ok (.iload_n 1, 1) := by decide +kernel
theorem dX6_summed_16 : decode cX6_summed 16 = .ok (.invokevirtual 29, 3) := by decide +kernel
theorem dX6_summed_19 : decode cX6_summed 19 = .ok (.if_icmp .ge 27, 3) := by decide +kernel
theorem dX6_summed_22 : decode cX6_summed 22 = .ok (.ldc2_w 121, 3) := by decide +kernel
theorem dX6_summed_25 : decode cX6_summed 25 = .ok (.lload_n 2, 1) := by decide +kernel
theorem dX6_summed_26 : decode cX6_summed 26 = .ok (.lmul, 1) := by decide +kernel
theorem dX6_summed_27 : decode cX6_summed 27 = .ok (.aload_n 0, 1) := by decide +kernel
theorem dX6_summed_28 : decode cX6_summed 28 = .ok (.getfield 8, 3) := by decide +kernel
theorem dX6_summed_31 : decode cX6_summed 31 = .ok (.iload_n 1, 1) := by decide +kernel
theorem dX6_summed_32 : decode cX6_summed 32 = .ok (.iconst 1, 1) := by decide +kernel
theorem dX6_summed_33 : decode cX6_summed 33 = .ok (.iadd, 1) := by decide +kernel
theorem dX6_summed_34 : decode cX6_summed 34 = .ok (.iload 4, 2) := by decide +kernel
theorem dX6_summed_36 : decode cX6_summed 36 = .ok (.iadd, 1) := by decide +kernel
theorem dX6_summed_37 : decode cX6_summed 37 = .ok (.laload, 1) := by decide +kernel
theorem dX6_summed_38 : decode cX6_summed 38 = .ok (.ladd, 1) := by decide +kernel
theorem dX6_summed_39 : decode cX6_summed 39 = .ok (.lstore_n 2, 1) := by decide +kernel
theorem dX6_summed_40 : decode cX6_summed 40 = .ok (.iinc 4 1, 3) := by decide +kernel
theorem dX6_summed_43 : decode cX6_summed 43 = .ok (.goto (-31), 3) := by decide +kernel
theorem dX6_summed_46 : decode cX6_summed 46 = .ok (.lload_n 2, 1) := by decide +kernel
theorem dX6_summed_47 : decode cX6_summed 47 = .ok (.lreturn, 1) := by decide +kernel
set_option maxRecDepth 20000 in
theorem ggX6_share_X6_kind : GoodIn wsX6_share wsX6_kind := goodIn_r _ [6, 1, 16, 17, 18, 19, 20, 21, 22, 23, 24, 25] (by decide +kernel) (by decide +kernel)
set_option maxRecDepth 20000 in
theorem gX6_share_X6_kind : GoodIn wsX6_share (wsV RX6 25 RX6 yX6_kind wsX6_kind) := goodIn_app (goodIn_of _ (by decide +kernel)) ggX6_share_X6_kind
set_option maxRecDepth 20000 in
theorem ggX6_share_X6_summed : GoodIn wsX6_share wsX6_summed := goodIn_r _ [10, 11, 1, 2, 3, 4, 5, 6, 12, 13, 14, 15, 16, 17, 18, 19, 20, 21, 22, 23, 24, 25] (by decide +kernel) (by decide +kernel)
set_option maxRecDepth 20000 in
theorem gX6_share_X6_summed : GoodIn wsX6_share (wsV RX6 123 RX6 yX6_summed wsX6_summed) := goodIn_app (goodIn_of _ (by decide +kernel)) ggX6_share_X6_summed
theorem dX6_share_0 : decode cX6_share 0 = .ok (.iload_n 1, 1) := by decide +kernel
theorem dX6_share_1 : decode cX6_share 1 = .ok (.ifCond .ge 5, 3) := by decide +kernel
theorem dX6_share_4 : decode cX6_share 4 = .ok (.lconst 0, 1) := by decide +kernel
theorem dX6_share_5 : decode cX6_share 5 = .ok (.lreturn, 1) := by decide +kernel
theorem dX6_share_6 : decode cX6_share 6 = .ok (.aload_n 0, 1) := by decide +kernel
theorem dX6_share_7 : decode cX6_share 7 = .ok (.iload_n 1, 1) := by decide +kernel
theorem dX6_share_8 : decode cX6_share 8 = .ok (.invokevirtual 25, 3) := by decide +kernel
theorem dX6_share_11 : decode cX6_share 11 = .ok (.ifCond .ne 11, 3) := by decide +kernel
theorem dX6_share_14 : decode cX6_share 14 = .ok (.aload_n 0, 1) := by decide +kernel
theorem dX6_share_15 : decode cX6_share 15 = .ok (.iload_n 1, 1) := by decide +kernel
theorem dX6_share_16 : decode cX6_share 16 = .ok (.invokevirtual 123, 3) := by decide +kernel
theorem dX6_share_19 : decode cX6_share 19 = .ok (.goto 9, 3) := by decide +kernel
theorem dX6_share_22 : decode cX6_share 22 = .ok (.aload_n 0, 1) := by decide +kernel
theorem dX6_share_23 : decode cX6_share 23 = .ok (.getfield 8, 3) := by decide +kernel
theorem dX6_share_26 : decode cX6_share 26 = .ok (.iload_n 1, 1) := by decide +kernel
theorem dX6_share_27 : decode cX6_share 27 = .ok (.laload, 1) := by decide +kernel
theorem dX6_share_28 : decode cX6_share 28 = .ok (.lreturn, 1) := by decide +kernel
set_option maxRecDepth 20000 in
theorem ggX6_digest_X6_in : GoodIn wsX6_digest wsX6_in := goodIn_r _ [6, 7, 8, 9, 5, 10, 40, 41, 42, 43, 44, 45, 46, 47, 48, 49] (by decide +kernel) (by decide +kernel)
set_option maxRecDepth 20000 in
theorem gX6_digest_X6_in : GoodIn wsX6_digest (wsV RX6 50 RX6 yX6_in wsX6_in) := goodIn_app (goodIn_of _ (by decide +kernel)) ggX6_digest_X6_in
set_option maxRecDepth 20000 in
theorem ggX6_digest_X6_isThing : GoodIn wsX6_digest wsX6_isThing := goodIn_r _ [14, 15, 16, 17, 5, 18, 19, 40, 41, 42, 43, 44, 45, 46, 47, 48, 49] (by decide +kernel) (by decide +kernel)
set_option maxRecDepth 20000 in
theorem gX6_digest_X6_isThing : GoodIn wsX6_digest (wsV RX6 53 RX6 yX6_isThing wsX6_isThing) := goodIn_app (goodIn_of _ (by decide +kernel)) ggX6_digest_X6_isThing
set_option maxRecDepth 20000 in
theorem ggX6_digest_X6_kind : GoodIn wsX6_digest wsX6_kind := goodIn_r _ [18, 19, 40, 41, 42, 43, 44, 45, 46, 47, 48, 49] (by decide +kernel) (by decide +kernel)
set_option maxRecDepth 20000 in
theorem gX6_digest_X6_kind : GoodIn wsX6_digest (wsV RX6 25 RX6 yX6_kind wsX6_kind) := goodIn_app (goodIn_of _ (by decide +kernel)) ggX6_digest_X6_kind
set_option maxRecDepth 20000 in
theorem ggX6_digest_X6_low : GoodIn wsX6_digest wsX6_low := goodIn_r _ [23, 19, 40, 41, 42, 43, 44, 45, 46, 47, 48, 49] (by decide +kernel) (by decide +kernel)
set_option maxRecDepth 20000 in
theorem gX6_digest_X6_low : GoodIn wsX6_digest (wsV RX6 29 RX6 yX6_low wsX6_low) := goodIn_app (goodIn_of _ (by decide +kernel)) ggX6_digest_X6_low
set_option maxRecDepth 20000 in
theorem ggX6_digest_X6_isOfObjects : GoodIn wsX6_digest wsX6_isOfObjects := goodIn_r _ [27, 15, 16, 17, 5, 18, 19, 40, 41, 42, 43, 44, 45, 46, 47, 48, 49] (by decide +kernel) (by decide +kernel)
set_option maxRecDepth 20000 in
theorem gX6_digest_X6_isOfObjects : GoodIn wsX6_digest (wsV RX6 70 RX6 yX6_isOfObjects wsX6_isOfObjects) := goodIn_app (goodIn_of _ (by decide +kernel)) ggX6_digest_X6_isOfObjects
set_option maxRecDepth 20000 in
theorem ggX6_digest_X6_summed : GoodIn wsX6_digest wsX6_summed := goodIn_r _ [31, 1, 19, 15, 16, 17, 5, 18, 20, 21, 22, 23, 40, 41, 42, 43, 44, 45, 46, 47, 48, 49] (by decide +kernel) (by decide +kernel)
set_option maxRecDepth 20000 in
theorem gX6_digest_X6_summed : GoodIn wsX6_digest (wsV RX6 123 RX6 yX6_summed wsX6_summed) := goodIn_app (goodIn_of _ (by decide +kernel)) ggX6_digest_X6_summed
set_option maxRecDepth 20000 in
theorem ggX6_digest_X6_object : GoodIn wsX6_digest wsX6_object := goodIn_r _ [35, 19, 40, 41, 42, 43, 44, 45, 46, 47, 48, 49] (by decide +kernel) (by decide +kernel)
set_option maxRecDepth 20000 in
theorem gX6_digest_X6_object : GoodIn wsX6_digest (wsV RX6 84 RX6 yX6_object wsX6_object) := goodIn_app (goodIn_of _ (by decide +kernel)) ggX6_digest_X6_object
set_option maxRecDepth 20000 in
theorem ggX6_digest_X6_share : GoodIn wsX6_digest wsX6_share := goodIn_r _ [39, 19, 15, 16, 17, 5, 18, 28, 29, 30, 31, 1, 20, 21, 22, 23, 40, 41, 42, 43, 44, 45, 46, 47, 48, 49] (by decide +kernel) (by decide +kernel)
set_option maxRecDepth 20000 in
theorem gX6_digest_X6_share : GoodIn wsX6_digest (wsV RX6 127 RX6 yX6_share wsX6_share) := goodIn_app (goodIn_of _ (by decide +kernel)) ggX6_digest_X6_share
theorem dX6_digest_0 : decode cX6_digest 0 = .ok (.aload_n 0, 1) := by decide +kernel
theorem dX6_digest_1 : decode cX6_digest 1 = .ok (.iload_n 1, 1) := by decide +kernel
theorem dX6_digest_2 : decode cX6_digest 2 = .ok (.invokevirtual 50, 3) := by decide +kernel
theorem dX6_digest_5 : decode cX6_digest 5 = .ok (.istore_n 2, 1) := by decide +kernel
theorem dX6_digest_6 : decode cX6_digest 6 = .ok (.iload_n 2, 1) := by decide +kernel
theorem dX6_digest_7 : decode cX6_digest 7 = .ok (.ifCond .ge 5, 3) := by decide +kernel
theorem dX6_digest_10 : decode cX6_digest 10 = .ok (.lconst 0, 1) := by decide +kernel
theorem dX6_digest_11 : decode cX6_digest 11 = .ok (.lreturn, 1) := by decide +kernel
theorem dX6_digest_12 : decode cX6_digest 12 = .ok (.aload_n 0, 1) := by decide +kernel
theorem dX6_digest_13 : decode cX6_digest 13 = .ok (.iload_n 2, 1) := by decide +kernel
theorem dX6_digest_14 : decode cX6_digest 14 = .ok (.invokevirtual 53, 3) := by decide +kernel
theorem dX6_digest_17 : decode cX6_digest 17 = .ok (.ifCond .eq 23, 3) := by decide +kernel
theorem dX6_digest_20 : decode cX6_digest 20 = .ok (.ldc2_w 121, 3) := by decide +kernel
theorem dX6_digest_23 : decode cX6_digest 23 = .ok (.aload_n 0, 1) := by decide +kernel
theorem dX6_digest_24 : decode cX6_digest 24 = .ok (.iload_n 2, 1) := by decide +kernel
theorem dX6_digest_25 : decode cX6_digest 25 = .ok (.invokevirtual 25, 3) := by decide +kernel
theorem dX6_digest_28 : decode cX6_digest 28 = .ok (.i2l, 1) := by decide +kernel
theorem dX6_digest_29 : decode cX6_digest 29 = .ok (.lconst 1, 1) := by decide +kernel
theorem dX6_digest_30 : decode cX6_digest 30 = .ok (.ladd, 1) := by decide +kernel
theorem dX6_digest_31 : decode cX6_digest 31 = .ok (.lmul, 1) := by decide +kernel
theorem dX6_digest_32 : decode cX6_digest 32 = .ok (.aload_n 0, 1) := by decide +kernel
theorem dX6_digest_33 : decode cX6_digest 33 = .ok (.iload_n 2, 1) := by decide +kernel
theorem dX6_digest_34 : decode cX6_digest 34 = .ok (.invokevirtual 29, 3) := by decide +kernel
theorem dX6_digest_37 : decode cX6_digest 37 = .ok (.i2l, 1) := by decide +kernel
theorem dX6_digest_38 : decode cX6_digest 38 = .ok (.ladd, 1) := by decide +kernel
theorem dX6_digest_39 : decode cX6_digest 39 = .ok (.lreturn, 1) := by decide +kernel
theorem dX6_digest_40 : decode cX6_digest 40 = .ok (.aload_n 0, 1) := by decide +kernel
theorem dX6_digest_41 : decode cX6_digest 41 = .ok (.iload_n 2, 1) := by decide +kernel
theorem dX6_digest_42 : decode cX6_digest 42 = .ok (.invokevirtual 70, 3) := by decide +kernel
theorem dX6_digest_45 : decode cX6_digest 45 = .ok (.ifCond .ne 9, 3) := by decide +kernel
theorem dX6_digest_48 : decode cX6_digest 48 = .ok (.aload_n 0, 1) := by decide +kernel
theorem dX6_digest_49 : decode cX6_digest 49 = .ok (.iload_n 2, 1) := by decide +kernel
theorem dX6_digest_50 : decode cX6_digest 50 = .ok (.invokevirtual 123, 3) := by decide +kernel
theorem dX6_digest_53 : decode cX6_digest 53 = .ok (.lreturn, 1) := by decide +kernel
theorem dX6_digest_54 : decode cX6_digest 54 = .ok (.aload_n 0, 1) := by decide +kernel
theorem dX6_digest_55 : decode cX6_digest 55 = .ok (.iload_n 2, 1) := by decide +kernel
theorem dX6_digest_56 : decode cX6_digest 56 = .ok (.invokevirtual 25, 3) := by decide +kernel
theorem dX6_digest_59 : decode cX6_digest 59 = .ok (.i2l, 1) := by decide +kernel
theorem dX6_digest_60 : decode cX6_digest 60 = .ok (.lconst 1, 1) := by decide +kernel
theorem dX6_digest_61 : decode cX6_digest 61 = .ok (.ladd, 1) := by decide +kernel
theorem dX6_digest_62 : decode cX6_digest 62 = .ok (.lstore_n 3, 1) := by decide +kernel
theorem dX6_digest_63 : decode cX6_digest 63 = .ok (.iconst 0, 1) := by decide +kernel
theorem dX6_digest_64 : decode cX6_digest 64 = .ok (.istore 5, 2) := by decide +kernel
theorem dX6_digest_66 : decode cX6_digest 66 = .ok (.iload 5, 2) := by decide +kernel
theorem dX6_digest_68 : decode cX6_digest 68 = .ok (.aload_n 0, 1) := by decide +kernel
theorem dX6_digest_69 : decode cX6_digest 69 = .ok (.iload_n 2, 1) := by decide +kernel
theorem dX6_digest_70 : decode cX6_digest 70 = .ok (.invokevirtual 29, 3) := by decide +kernel
theorem dX6_digest_73 : decode cX6_digest 73 = .ok (.if_icmp .ge 31, 3) := by decide +kernel
theorem dX6_digest_76 : decode cX6_digest 76 = .ok (.aload_n 0, 1) := by decide +kernel
theorem dX6_digest_77 : decode cX6_digest 77 = .ok (.iload_n 2, 1) := by decide +kernel
theorem dX6_digest_78 : decode cX6_digest 78 = .ok (.iload 5, 2) := by decide +kernel
theorem dX6_digest_80 : decode cX6_digest 80 = .ok (.invokevirtual 84, 3) := by decide +kernel
theorem dX6_digest_83 : decode cX6_digest 83 = .ok (.istore 6, 2) := by decide +kernel
theorem dX6_digest_85 : decode cX6_digest 85 = .ok (.ldc2_w 121, 3) := by decide +kernel
theorem dX6_digest_88 : decode cX6_digest 88 = .ok (.lload_n 3, 1) := by decide +kernel
theorem dX6_digest_89 : decode cX6_digest 89 = .ok (.lmul, 1) := by decide +kernel
theorem dX6_digest_90 : decode cX6_digest 90 = .ok (.aload_n 0, 1) := by decide +kernel
theorem dX6_digest_91 : decode cX6_digest 91 = .ok (.iload 6, 2) := by decide +kernel
theorem dX6_digest_93 : decode cX6_digest 93 = .ok (.invokevirtual 127, 3) := by decide +kernel
theorem dX6_digest_96 : decode cX6_digest 96 = .ok (.ladd, 1) := by decide +kernel
theorem dX6_digest_97 : decode cX6_digest 97 = .ok (.lstore_n 3, 1) := by decide +kernel
theorem dX6_digest_98 : decode cX6_digest 98 = .ok (.iinc 5 1, 3) := by decide +kernel
theorem dX6_digest_101 : decode cX6_digest 101 = .ok (.goto (-35), 3) := by decide +kernel
theorem dX6_digest_104 : decode cX6_digest 104 = .ok (.lload_n 3, 1) := by decide +kernel
theorem dX6_digest_105 : decode cX6_digest 105 = .ok (.lreturn, 1) := by decide +kernel
theorem dX6_count_0 : decode cX6_count 0 = .ok (.iconst 0, 1) := by decide +kernel
theorem dX6_count_1 : decode cX6_count 1 = .ok (.istore_n 2, 1) := by decide +kernel
theorem dX6_count_2 : decode cX6_count 2 = .ok (.iconst 0, 1) := by decide +kernel
theorem dX6_count_3 : decode cX6_count 3 = .ok (.istore_n 3, 1) := by decide +kernel
theorem dX6_count_4 : decode cX6_count 4 = .ok (.iload_n 3, 1) := by decide +kernel
theorem dX6_count_5 : decode cX6_count 5 = .ok (.sipush 400, 3) := by decide +kernel
theorem dX6_count_8 : decode cX6_count 8 = .ok (.if_icmp .ge 26, 3) := by decide +kernel
theorem dX6_count_11 : decode cX6_count 11 = .ok (.aload_n 0, 1) := by decide +kernel
theorem dX6_count_12 : decode cX6_count 12 = .ok (.getfield 14, 3) := by decide +kernel
theorem dX6_count_15 : decode cX6_count 15 = .ok (.iload_n 3, 1) := by decide +kernel
theorem dX6_count_16 : decode cX6_count 16 = .ok (.iaload, 1) := by decide +kernel
theorem dX6_count_17 : decode cX6_count 17 = .ok (.ifCond .le 9, 3) := by decide +kernel
theorem dX6_count_20 : decode cX6_count 20 = .ok (.iload_n 2, 1) := by decide +kernel
theorem dX6_count_21 : decode cX6_count 21 = .ok (.iconst 1, 1) := by decide +kernel
theorem dX6_count_22 : decode cX6_count 22 = .ok (.iadd, 1) := by decide +kernel
theorem dX6_count_23 : decode cX6_count 23 = .ok (.goto 4, 3) := by decide +kernel
theorem dX6_count_26 : decode cX6_count 26 = .ok (.iload_n 2, 1) := by decide +kernel
theorem dX6_count_27 : decode cX6_count 27 = .ok (.istore_n 2, 1) := by decide +kernel
theorem dX6_count_28 : decode cX6_count 28 = .ok (.iinc 3 1, 3) := by decide +kernel
theorem dX6_count_31 : decode cX6_count 31 = .ok (.goto (-27), 3) := by decide +kernel
theorem dX6_count_34 : decode cX6_count 34 = .ok (.iload_n 1, 1) := by decide +kernel
theorem dX6_count_35 : decode cX6_count 35 = .ok (.tableswitch 58 0 4 #[33, 35, 43, 48, 53], 33) := by decide +kernel
theorem dX6_count_68 : decode cX6_count 68 = .ok (.iload_n 2, 1) := by decide +kernel
theorem dX6_count_69 : decode cX6_count 69 = .ok (.ireturn, 1) := by decide +kernel
theorem dX6_count_70 : decode cX6_count 70 = .ok (.ldc 7, 2) := by decide +kernel
theorem dX6_count_72 : decode cX6_count 72 = .ok (.aload_n 0, 1) := by decide +kernel
theorem dX6_count_73 : decode cX6_count 73 = .ok (.getfield 32, 3) := by decide +kernel
theorem dX6_count_76 : decode cX6_count 76 = .ok (.isub, 1) := by decide +kernel
theorem dX6_count_77 : decode cX6_count 77 = .ok (.ireturn, 1) := by decide +kernel
theorem dX6_count_78 : decode cX6_count 78 = .ok (.aload_n 0, 1) := by decide +kernel
theorem dX6_count_79 : decode cX6_count 79 = .ok (.getfield 115, 3) := by decide +kernel
theorem dX6_count_82 : decode cX6_count 82 = .ok (.ireturn, 1) := by decide +kernel
theorem dX6_count_83 : decode cX6_count 83 = .ok (.aload_n 0, 1) := by decide +kernel
theorem dX6_count_84 : decode cX6_count 84 = .ok (.getfield 109, 3) := by decide +kernel
theorem dX6_count_87 : decode cX6_count 87 = .ok (.ireturn, 1) := by decide +kernel
theorem dX6_count_88 : decode cX6_count 88 = .ok (.aload_n 0, 1) := by decide +kernel
theorem dX6_count_89 : decode cX6_count 89 = .ok (.getfield 112, 3) := by decide +kernel
theorem dX6_count_92 : decode cX6_count 92 = .ok (.ireturn, 1) := by decide +kernel
theorem dX6_count_93 : decode cX6_count 93 = .ok (.iconst (-1), 1) := by decide +kernel
theorem dX6_count_94 : decode cX6_count 94 = .ok (.ireturn, 1) := by decide +kernel
end
section
set_option maxRecDepth 20000 in
theorem ggL_law_X5_init : GoodIn wsL_law wsX5_init := goodIn_r _ [9, 10, 11, 12, 13, 14, 15, 16, 17, 18, 19, 20, 21, 22, 23, 24, 453, 454, 455, 456, 457, 458, 459, 460, 461] (by decide +kernel) (by decide +kernel)
set_option maxRecDepth 20000 in
theorem gL_law_X5_init : GoodIn wsL_law (wsX5_init) := ggL_law_X5_init
set_option maxRecDepth 20000 in
theorem ggL_law_X6_init : GoodIn wsL_law wsX6_init := goodIn_r _ [27, 28, 11, 12, 29, 30, 31, 15, 32, 33, 462, 463, 464, 465, 466, 467, 468, 469, 470, 471] (by decide +kernel) (by decide +kernel)
set_option maxRecDepth 20000 in
theorem gL_law_X6_init : GoodIn wsL_law (wsX6_init) := ggL_law_X6_init
set_option maxRecDepth 20000 in
theorem ggL_law_X5_row : GoodIn wsL_law wsX5_row := goodIn_r _ [37, 19, 14, 38, 39, 40, 41, 42, 43, 44, 45, 46, 2, 47, 48, 49, 50, 30, 51, 52, 53, 54, 55, 56, 57, 58, 59, 60, 61, 11, 12, 62, 63, 64, 65, 66, 67, 68, 453, 454, 455, 456, 457, 458, 459, 460, 461, 472, 473, 474, 475, 476, 477, 478, 479, 480, 481] (by decide +kernel) (by decide +kernel)
set_option maxRecDepth 20000 in
theorem gL_law_X5_row : GoodIn wsL_law (wsV RL 13 RX5 yX5_row wsX5_row) := goodIn_app (goodIn_of _ (by decide +kernel)) ggL_law_X5_row
set_option maxRecDepth 20000 in
theorem ggL_law_X6_row : GoodIn wsL_law wsX6_row := goodIn_r _ [72, 29, 73, 74, 75, 76, 5, 77, 32, 78, 79, 80, 81, 31, 82, 462, 463, 464, 465, 466, 467, 468, 469, 470, 471] (by decide +kernel) (by decide +kernel)
set_option maxRecDepth 20000 in
theorem gL_law_X6_row : GoodIn wsL_law (wsV RL 17 RX6 yX6_row wsX6_row) := goodIn_app (goodIn_of _ (by decide +kernel)) ggL_law_X6_row
set_option maxRecDepth 20000 in
theorem ggL_law_X5_mark : GoodIn wsL_law wsX5_mark := goodIn_r _ [86, 87, 88, 89, 2, 90, 19, 14, 91, 92, 93, 44, 45, 46, 47, 94, 95, 96, 97, 98, 58, 59, 60, 61, 11, 12, 62, 453, 454, 455, 456, 457, 458, 459, 460, 461, 480, 481, 472, 473, 474, 475, 476, 477, 478, 479] (by decide +kernel) (by decide +kernel)
set_option maxRecDepth 20000 in
theorem gL_law_X5_mark : GoodIn wsL_law (wsV RL 18 RX5 yX5_mark wsX5_mark) := goodIn_app (goodIn_of _ (by decide +kernel)) ggL_law_X5_mark
set_option maxRecDepth 20000 in
theorem ggL_law_X6_mark : GoodIn wsL_law wsX6_mark := goodIn_r _ [102, 103, 104, 105, 5, 106, 73, 29, 74, 75, 76, 77, 32, 78, 79, 80, 81, 31, 82, 462, 463, 464, 465, 466, 467, 468, 469, 470, 471] (by decide +kernel) (by decide +kernel)
set_option maxRecDepth 20000 in
theorem gL_law_X6_mark : GoodIn wsL_law (wsV RL 22 RX6 yX6_mark wsX6_mark) := goodIn_app (goodIn_of _ (by decide +kernel)) ggL_law_X6_mark
set_option maxRecDepth 20000 in
theorem ggL_law_X5_seal : GoodIn wsL_law wsX5_seal := goodIn_r _ [110, 87, 88, 89, 2, 90, 19, 14, 91, 92, 93, 44, 45, 46, 47, 94, 95, 96, 97, 98, 58, 59, 60, 61, 11, 12, 62, 453, 454, 455, 456, 457, 458, 459, 460, 461, 480, 481, 472, 473, 474, 475, 476, 477, 478, 479] (by decide +kernel) (by decide +kernel)
set_option maxRecDepth 20000 in
theorem gL_law_X5_seal : GoodIn wsL_law (wsV RL 23 RX5 yX5_seal wsX5_seal) := goodIn_app (goodIn_of _ (by decide +kernel)) ggL_law_X5_seal
set_option maxRecDepth 20000 in
theorem ggL_law_X6_seal : GoodIn wsL_law wsX6_seal := goodIn_r _ [114, 103, 104, 105, 5, 106, 73, 29, 74, 75, 76, 77, 32, 78, 79, 80, 81, 31, 82, 462, 463, 464, 465, 466, 467, 468, 469, 470, 471] (by decide +kernel) (by decide +kernel)
set_option maxRecDepth 20000 in
theorem gL_law_X6_seal : GoodIn wsL_law (wsV RL 26 RX6 yX6_seal wsX6_seal) := goodIn_app (goodIn_of _ (by decide +kernel)) ggL_law_X6_seal
set_option maxRecDepth 20000 in
theorem ggL_law_X5_kindOf : GoodIn wsL_law wsX5_kindOf := goodIn_r _ [118, 119, 120, 121, 122, 2, 123, 14, 472, 473, 474, 475, 476, 477, 478, 479, 480, 481, 453, 454, 455, 456, 457, 458, 459, 460, 461] (by decide +kernel) (by decide +kernel)
set_option maxRecDepth 20000 in
theorem gL_law_X5_kindOf : GoodIn wsL_law (wsV RL 27 RX5 yX5_kindOf wsX5_kindOf) := goodIn_app (goodIn_of _ (by decide +kernel)) ggL_law_X5_kindOf
set_option maxRecDepth 20000 in
theorem ggL_law_X6_kindOf : GoodIn wsL_law wsX6_kindOf := goodIn_r _ [127, 128, 129, 130, 5, 131, 32, 132, 133, 134, 135, 136, 137, 138, 31, 462, 463, 464, 465, 466, 467, 468, 469, 470, 471] (by decide +kernel) (by decide +kernel)
set_option maxRecDepth 20000 in
theorem gL_law_X6_kindOf : GoodIn wsL_law (wsV RL 30 RX6 yX6_kindOf wsX6_kindOf) := goodIn_app (goodIn_of _ (by decide +kernel)) ggL_law_X6_kindOf
set_option maxRecDepth 20000 in
theorem ggL_law_X5_length : GoodIn wsL_law wsX5_length := goodIn_r _ [142, 143, 144, 120, 121, 122, 2, 123, 14, 472, 473, 474, 475, 476, 477, 478, 479, 453, 454, 455, 456, 457, 458, 459, 460, 461] (by decide +kernel) (by decide +kernel)
set_option maxRecDepth 20000 in
theorem gL_law_X5_length : GoodIn wsL_law (wsV RL 31 RX5 yX5_length wsX5_length) := goodIn_app (goodIn_of _ (by decide +kernel)) ggL_law_X5_length
set_option maxRecDepth 20000 in
theorem ggL_law_X6_length : GoodIn wsL_law wsX6_length := goodIn_r _ [148, 128, 129, 130, 5, 131, 32, 132, 133, 134, 149, 150, 151, 152, 135, 136, 137, 138, 31, 153, 154, 155, 156, 462, 463, 464, 465, 466, 467, 468, 469, 470, 471] (by decide +kernel) (by decide +kernel)
set_option maxRecDepth 20000 in
theorem gL_law_X6_length : GoodIn wsL_law (wsV RL 34 RX6 yX6_length wsX6_length) := goodIn_app (goodIn_of _ (by decide +kernel)) ggL_law_X6_length
set_option maxRecDepth 20000 in
theorem ggL_law_X5_set : GoodIn wsL_law wsX5_set := goodIn_r _ [160, 161, 120, 121, 122, 2, 123, 14, 162, 163, 164, 143, 165, 166, 167, 168, 169, 170, 54, 171, 56, 172, 173, 174, 175, 40, 176, 51, 177, 178, 179, 180, 181, 182, 183, 453, 454, 455, 456, 457, 458, 459, 460, 461, 472, 473, 474, 475, 476, 477, 478, 479, 480, 481] (by decide +kernel) (by decide +kernel)
set_option maxRecDepth 20000 in
theorem gL_law_X5_set : GoodIn wsL_law (wsV RL 37 RX5 yX5_set wsX5_set) := goodIn_app (goodIn_of _ (by decide +kernel)) ggL_law_X5_set
set_option maxRecDepth 20000 in
theorem ggL_law_X6_set : GoodIn wsL_law wsX6_set := goodIn_r _ [187, 31, 128, 129, 130, 5, 131, 32, 132, 133, 134, 149, 150, 151, 152, 135, 136, 137, 138, 188, 189, 190, 191, 192, 193, 194, 195, 153, 154, 155, 156, 196, 197, 198, 199, 200, 201, 202, 203, 204, 205, 206, 462, 463, 464, 465, 466, 467, 468, 469, 470, 471] (by decide +kernel) (by decide +kernel)
set_option maxRecDepth 20000 in
theorem gL_law_X6_set : GoodIn wsL_law (wsV RL 41 RX6 yX6_set wsX6_set) := goodIn_app (goodIn_of _ (by decide +kernel)) ggL_law_X6_set
set_option maxRecDepth 20000 in
theorem ggL_law_X5_setThing : GoodIn wsL_law wsX5_setThing := goodIn_r _ [210, 211, 120, 121, 122, 2, 123, 14, 162, 163, 164, 143, 165, 166, 167, 168, 169, 170, 54, 171, 56, 172, 212, 213, 214, 43, 215, 216, 217, 218, 219, 220, 221, 222, 67, 453, 454, 455, 456, 457, 458, 459, 460, 461, 472, 473, 474, 475, 476, 477, 478, 479, 480, 481] (by decide +kernel) (by decide +kernel)
set_option maxRecDepth 20000 in
theorem gL_law_X5_setThing : GoodIn wsL_law (wsV RL 42 RX5 yX5_setThing wsX5_setThing) := goodIn_app (goodIn_of _ (by decide +kernel)) ggL_law_X5_setThing
set_option maxRecDepth 20000 in
theorem ggL_law_X6_setThing : GoodIn wsL_law wsX6_setThing := goodIn_r _ [226, 31, 128, 129, 130, 5, 131, 32, 132, 133, 134, 149, 150, 151, 152, 135, 136, 137, 138, 188, 189, 190, 191, 192, 193, 194, 195, 153, 154, 155, 156, 227, 228, 229, 230, 462, 463, 464, 465, 466, 467, 468, 469, 470, 471] (by decide +kernel) (by decide +kernel)
set_option maxRecDepth 20000 in
theorem gL_law_X6_setThing : GoodIn wsL_law (wsV RL 46 RX6 yX6_setThing wsX6_setThing) := goodIn_app (goodIn_of _ (by decide +kernel)) ggL_law_X6_setThing
set_option maxRecDepth 20000 in
theorem ggL_law_X5_get : GoodIn wsL_law wsX5_get := goodIn_r _ [234, 20, 161, 211, 120, 121, 122, 2, 123, 14, 162, 163, 164, 143, 165, 166, 167, 168, 169, 170, 54, 171, 56, 172, 235, 236, 237, 40, 238, 51, 239, 240, 241, 43, 242, 67, 243, 244, 245, 246, 247, 248, 249, 250, 251, 144, 252, 453, 454, 455, 456, 457, 458, 459, 460, 461, 472, 473, 474, 475, 476, 477, 478, 479, 480, 481] (by decide +kernel) (by decide +kernel)
set_option maxRecDepth 20000 in
theorem gL_law_X5_get : GoodIn wsL_law (wsV RL 47 RX5 yX5_get wsX5_get) := goodIn_app (goodIn_of _ (by decide +kernel)) ggL_law_X5_get
set_option maxRecDepth 20000 in
theorem ggL_law_X6_get : GoodIn wsL_law wsX6_get := goodIn_r _ [256, 257, 128, 129, 130, 5, 131, 32, 132, 133, 134, 258, 259, 260, 261, 149, 150, 151, 152, 135, 136, 137, 138, 31, 192, 193, 194, 195, 153, 154, 155, 156, 262, 263, 264, 265, 266, 188, 189, 190, 191, 267, 268, 269, 270, 462, 463, 464, 465, 466, 467, 468, 469, 470, 471] (by decide +kernel) (by decide +kernel)
set_option maxRecDepth 20000 in
theorem gL_law_X6_get : GoodIn wsL_law (wsV RL 51 RX6 yX6_get wsX6_get) := goodIn_app (goodIn_of _ (by decide +kernel)) ggL_law_X6_get
set_option maxRecDepth 20000 in
theorem ggL_law_X5_deep : GoodIn wsL_law wsX5_deep := goodIn_r _ [274, 20, 211, 120, 121, 122, 2, 123, 14, 162, 163, 164, 143, 165, 166, 167, 168, 169, 170, 54, 171, 56, 172, 239, 240, 241, 43, 242, 67, 275, 276, 277, 278, 161, 279, 280, 281, 235, 236, 237, 40, 238, 51, 453, 454, 455, 456, 457, 458, 459, 460, 461, 472, 473, 474, 475, 476, 477, 478, 479, 480, 481] (by decide +kernel) (by decide +kernel)
set_option maxRecDepth 20000 in
theorem gL_law_X5_deep : GoodIn wsL_law (wsV RL 52 RX5 yX5_deep wsX5_deep) := goodIn_app (goodIn_of _ (by decide +kernel)) ggL_law_X5_deep
set_option maxRecDepth 20000 in
theorem ggL_law_X6_deep : GoodIn wsL_law wsX6_deep := goodIn_r _ [285, 257, 31, 128, 129, 130, 5, 131, 32, 132, 133, 134, 149, 150, 151, 152, 135, 136, 137, 138, 192, 193, 194, 195, 153, 154, 155, 156, 267, 268, 269, 270, 462, 463, 464, 465, 466, 467, 468, 469, 470, 471] (by decide +kernel) (by decide +kernel)
set_option maxRecDepth 20000 in
theorem gL_law_X6_deep : GoodIn wsL_law (wsV RL 56 RX6 yX6_deep wsX6_deep) := goodIn_app (goodIn_of _ (by decide +kernel)) ggL_law_X6_deep
set_option maxRecDepth 20000 in
theorem ggL_law_X5_why : GoodIn wsL_law wsX5_why := goodIn_r _ [289, 20, 453, 454, 455, 456, 457, 458, 459, 460, 461] (by decide +kernel) (by decide +kernel)
set_option maxRecDepth 20000 in
theorem gL_law_X5_why : GoodIn wsL_law (wsV RL 57 RX5 yX5_why wsX5_why) := goodIn_app (goodIn_of _ (by decide +kernel)) ggL_law_X5_why
set_option maxRecDepth 20000 in
theorem ggL_law_X6_why : GoodIn wsL_law wsX6_why := goodIn_r _ [293, 257, 462, 463, 464, 465, 466, 467, 468, 469, 470, 471] (by decide +kernel) (by decide +kernel)
set_option maxRecDepth 20000 in
theorem gL_law_X6_why : GoodIn wsL_law (wsV RL 61 RX6 yX6_why wsX6_why) := goodIn_app (goodIn_of _ (by decide +kernel)) ggL_law_X6_why
set_option maxRecDepth 20000 in
theorem ggL_law_X5_lift : GoodIn wsL_law wsX5_lift := goodIn_r _ [297, 211, 120, 121, 122, 2, 123, 14, 162, 163, 164, 143, 165, 166, 167, 168, 169, 170, 54, 171, 56, 172, 239, 240, 241, 43, 242, 67, 298, 299, 300, 301, 44, 45, 46, 47, 453, 454, 455, 456, 457, 458, 459, 460, 461, 472, 473, 474, 475, 476, 477, 478, 479, 480, 481] (by decide +kernel) (by decide +kernel)
set_option maxRecDepth 20000 in
theorem gL_law_X5_lift : GoodIn wsL_law (wsV RL 62 RX5 yX5_lift wsX5_lift) := goodIn_app (goodIn_of _ (by decide +kernel)) ggL_law_X5_lift
set_option maxRecDepth 20000 in
theorem ggL_law_X6_lift : GoodIn wsL_law wsX6_lift := goodIn_r _ [305, 32, 128, 129, 130, 5, 131, 132, 133, 134, 149, 150, 151, 152, 135, 136, 137, 138, 31, 188, 189, 190, 191, 192, 193, 194, 195, 153, 154, 155, 156, 267, 268, 269, 270, 74, 75, 76, 77, 462, 463, 464, 465, 466, 467, 468, 469, 470, 471] (by decide +kernel) (by decide +kernel)
set_option maxRecDepth 20000 in
theorem gL_law_X6_lift : GoodIn wsL_law (wsV RL 65 RX6 yX6_lift wsX6_lift) := goodIn_app (goodIn_of _ (by decide +kernel)) ggL_law_X6_lift
set_option maxRecDepth 20000 in
theorem ggL_law_X5_move : GoodIn wsL_law wsX5_move := goodIn_r _ [309, 310, 311, 312, 2, 313, 21, 22, 143, 23, 24, 120, 121, 122, 123, 14, 314, 315, 316, 246, 211, 119, 317, 318, 319, 320, 161, 321, 322, 323, 324, 54, 325, 56, 326, 327, 328, 329, 40, 330, 51, 331, 332, 333, 334, 177, 335, 336, 337, 43, 338, 67, 339, 340, 213, 214, 215, 216, 217, 218, 453, 454, 455, 456, 457, 458, 459, 460, 461, 472, 473, 474, 475, 476, 477, 478, 479, 480, 481] (by decide +kernel) (by decide +kernel)
set_option maxRecDepth 20000 in
theorem gL_law_X5_move : GoodIn wsL_law (wsV RL 66 RX5 yX5_move wsX5_move) := goodIn_app (goodIn_of _ (by decide +kernel)) ggL_law_X5_move
set_option maxRecDepth 20000 in
theorem ggL_law_X6_move : GoodIn wsL_law wsX6_move := goodIn_r _ [344, 345, 346, 31, 347, 348, 128, 129, 130, 5, 131, 32, 132, 133, 134, 349, 350, 351, 352, 149, 150, 151, 152, 135, 136, 137, 138, 188, 189, 190, 191, 153, 154, 155, 156, 267, 268, 269, 270, 227, 228, 229, 230, 462, 463, 464, 465, 466, 467, 468, 469, 470, 471] (by decide +kernel) (by decide +kernel)
set_option maxRecDepth 20000 in
theorem gL_law_X6_move : GoodIn wsL_law (wsV RL 70 RX6 yX6_move wsX6_move) := goodIn_app (goodIn_of _ (by decide +kernel)) ggL_law_X6_move
set_option maxRecDepth 20000 in
theorem ggL_law_X5_moved : GoodIn wsL_law wsX5_moved := goodIn_r _ [356, 21, 453, 454, 455, 456, 457, 458, 459, 460, 461] (by decide +kernel) (by decide +kernel)
set_option maxRecDepth 20000 in
theorem gL_law_X5_moved : GoodIn wsL_law (wsV RL 71 RX5 yX5_moved wsX5_moved) := goodIn_app (goodIn_of _ (by decide +kernel)) ggL_law_X5_moved
set_option maxRecDepth 20000 in
theorem ggL_law_X6_moved : GoodIn wsL_law wsX6_moved := goodIn_r _ [360, 345, 462, 463, 464, 465, 466, 467, 468, 469, 470, 471] (by decide +kernel) (by decide +kernel)
set_option maxRecDepth 20000 in
theorem gL_law_X6_moved : GoodIn wsL_law (wsV RL 74 RX6 yX6_moved wsX6_moved) := goodIn_app (goodIn_of _ (by decide +kernel)) ggL_law_X6_moved
set_option maxRecDepth 20000 in
theorem ggL_law_X5_plan : GoodIn wsL_law wsX5_plan := goodIn_r _ [364, 17, 16, 453, 454, 455, 456, 457, 458, 459, 460, 461] (by decide +kernel) (by decide +kernel)
set_option maxRecDepth 20000 in
theorem gL_law_X5_plan : GoodIn wsL_law (wsV RL 75 RX5 yX5_plan wsX5_plan) := goodIn_app (goodIn_of _ (by decide +kernel)) ggL_law_X5_plan
set_option maxRecDepth 20000 in
theorem ggL_law_X6_plan : GoodIn wsL_law wsX6_plan := goodIn_r _ [368, 369, 33, 462, 463, 464, 465, 466, 467, 468, 469, 470, 471] (by decide +kernel) (by decide +kernel)
set_option maxRecDepth 20000 in
theorem gL_law_X6_plan : GoodIn wsL_law (wsV RL 78 RX6 yX6_plan wsX6_plan) := goodIn_app (goodIn_of _ (by decide +kernel)) ggL_law_X6_plan
set_option maxRecDepth 20000 in
theorem ggL_law_X5_run : GoodIn wsL_law wsX5_run := goodIn_r _ [373, 17, 374, 375, 376, 2, 377, 16, 310, 311, 312, 313, 21, 22, 143, 23, 24, 120, 121, 122, 123, 14, 314, 315, 316, 246, 211, 119, 317, 318, 319, 320, 161, 321, 322, 323, 324, 54, 325, 56, 326, 327, 328, 329, 40, 330, 51, 331, 332, 333, 334, 177, 335, 336, 337, 43, 338, 67, 339, 340, 213, 214, 215, 216, 217, 218, 453, 454, 455, 456, 457, 458, 459, 460, 461, 472, 473, 474, 475, 476, 477, 478, 479, 480, 481] (by decide +kernel) (by decide +kernel)
set_option maxRecDepth 20000 in
theorem gL_law_X5_run : GoodIn wsL_law (wsV RL 79 RX5 yX5_run wsX5_run) := goodIn_app (goodIn_of _ (by decide +kernel)) ggL_law_X5_run
set_option maxRecDepth 20000 in
theorem ggL_law_X6_run : GoodIn wsL_law wsX6_run := goodIn_r _ [381, 369, 33, 382, 342, 343, 5, 344, 345, 346, 31, 347, 348, 128, 129, 130, 131, 32, 132, 133, 134, 349, 350, 351, 352, 149, 150, 151, 152, 135, 136, 137, 138, 188, 189, 190, 191, 153, 154, 155, 156, 267, 268, 269, 270, 227, 228, 229, 230, 462, 463, 464, 465, 466, 467, 468, 469, 470, 471] (by decide +kernel) (by decide +kernel)
set_option maxRecDepth 20000 in
theorem gL_law_X6_run : GoodIn wsL_law (wsV RL 82 RX6 yX6_run wsX6_run) := goodIn_app (goodIn_of _ (by decide +kernel)) ggL_law_X6_run
set_option maxRecDepth 20000 in
theorem ggL_law_X5_ended : GoodIn wsL_law wsX5_ended := goodIn_r _ [386, 22, 453, 454, 455, 456, 457, 458, 459, 460, 461] (by decide +kernel) (by decide +kernel)
set_option maxRecDepth 20000 in
theorem gL_law_X5_ended : GoodIn wsL_law (wsV RL 83 RX5 yX5_ended wsX5_ended) := goodIn_app (goodIn_of _ (by decide +kernel)) ggL_law_X5_ended
set_option maxRecDepth 20000 in
theorem ggL_law_X6_ended : GoodIn wsL_law wsX6_ended := goodIn_r _ [390, 346, 462, 463, 464, 465, 466, 467, 468, 469, 470, 471] (by decide +kernel) (by decide +kernel)
set_option maxRecDepth 20000 in
theorem gL_law_X6_ended : GoodIn wsL_law (wsV RL 86 RX6 yX6_ended wsX6_ended) := goodIn_app (goodIn_of _ (by decide +kernel)) ggL_law_X6_ended
set_option maxRecDepth 20000 in
theorem ggL_law_X5_clear : GoodIn wsL_law wsX5_clear := goodIn_r _ [394, 14, 120, 121, 122, 2, 123, 453, 454, 455, 456, 457, 458, 459, 460, 461] (by decide +kernel) (by decide +kernel)
set_option maxRecDepth 20000 in
theorem gL_law_X5_clear : GoodIn wsL_law (wsV RL 87 RX5 yX5_clear wsX5_clear) := goodIn_app (goodIn_of _ (by decide +kernel)) ggL_law_X5_clear
set_option maxRecDepth 20000 in
theorem ggL_law_X6_clear : GoodIn wsL_law wsX6_clear := goodIn_r _ [398, 32, 128, 129, 130, 5, 131, 132, 133, 134, 462, 463, 464, 465, 466, 467, 468, 469, 470, 471] (by decide +kernel) (by decide +kernel)
set_option maxRecDepth 20000 in
theorem gL_law_X6_clear : GoodIn wsL_law (wsV RL 90 RX6 yX6_clear wsX6_clear) := goodIn_app (goodIn_of _ (by decide +kernel)) ggL_law_X6_clear
set_option maxRecDepth 20000 in
theorem ggL_law_X5_same : GoodIn wsL_law wsX5_same := goodIn_r _ [402, 120, 121, 122, 2, 123, 14, 453, 454, 455, 456, 457, 458, 459, 460, 461] (by decide +kernel) (by decide +kernel)
set_option maxRecDepth 20000 in
theorem gL_law_X5_same : GoodIn wsL_law (wsV RL 91 RX5 yX5_same wsX5_same) := goodIn_app (goodIn_of _ (by decide +kernel)) ggL_law_X5_same
set_option maxRecDepth 20000 in
theorem ggL_law_X6_same : GoodIn wsL_law wsX6_same := goodIn_r _ [406, 128, 129, 130, 5, 131, 32, 132, 133, 134, 462, 463, 464, 465, 466, 467, 468, 469, 470, 471] (by decide +kernel) (by decide +kernel)
set_option maxRecDepth 20000 in
theorem gL_law_X6_same : GoodIn wsL_law (wsV RL 94 RX6 yX6_same wsX6_same) := goodIn_app (goodIn_of _ (by decide +kernel)) ggL_law_X6_same
set_option maxRecDepth 20000 in
theorem ggL_law_X5_digest : GoodIn wsL_law wsX5_digest := goodIn_r _ [410, 161, 211, 246, 411, 247, 248, 250, 120, 121, 122, 2, 123, 14, 412, 413, 414, 40, 415, 177, 182, 183, 51, 416, 417, 418, 419, 420, 43, 421, 216, 217, 67, 422, 423, 424, 425, 426, 427, 244, 245, 249, 251, 143, 144, 252, 472, 473, 474, 475, 476, 477, 478, 479, 480, 481, 453, 454, 455, 456, 457, 458, 459, 460, 461] (by decide +kernel) (by decide +kernel)
set_option maxRecDepth 20000 in
theorem gL_law_X5_digest : GoodIn wsL_law (wsV RL 95 RX5 yX5_digest wsX5_digest) := goodIn_app (goodIn_of _ (by decide +kernel)) ggL_law_X5_digest
set_option maxRecDepth 20000 in
theorem ggL_law_X6_digest : GoodIn wsL_law wsX6_digest := goodIn_r _ [431, 432, 128, 129, 130, 5, 131, 32, 132, 133, 134, 149, 150, 151, 152, 135, 136, 137, 138, 31, 153, 154, 155, 156, 188, 189, 190, 191, 433, 434, 435, 436, 267, 268, 269, 270, 437, 438, 439, 440, 462, 463, 464, 465, 466, 467, 468, 469, 470, 471] (by decide +kernel) (by decide +kernel)
set_option maxRecDepth 20000 in
theorem gL_law_X6_digest : GoodIn wsL_law (wsV RL 99 RX6 yX6_digest wsX6_digest) := goodIn_app (goodIn_of _ (by decide +kernel)) ggL_law_X6_digest
set_option maxRecDepth 20000 in
theorem ggL_law_X5_count : GoodIn wsL_law wsX5_count := goodIn_r _ [444, 19, 17, 23, 24, 445, 446, 447, 2, 448, 14, 453, 454, 455, 456, 457, 458, 459, 460, 461] (by decide +kernel) (by decide +kernel)
set_option maxRecDepth 20000 in
theorem gL_law_X5_count : GoodIn wsL_law (wsV RL 100 RX5 yX5_count wsX5_count) := goodIn_app (goodIn_of _ (by decide +kernel)) ggL_law_X5_count
set_option maxRecDepth 20000 in
theorem ggL_law_X6_count : GoodIn wsL_law wsX6_count := goodIn_r _ [452, 32, 29, 73, 369, 347, 348, 462, 463, 464, 465, 466, 467, 468, 469, 470, 471] (by decide +kernel) (by decide +kernel)
set_option maxRecDepth 20000 in
theorem gL_law_X6_count : GoodIn wsL_law (wsV RL 103 RX6 yX6_count wsX6_count) := goodIn_app (goodIn_of _ (by decide +kernel)) ggL_law_X6_count
theorem dL_law_0 : decode cL_law 0 = .ok (.new 7, 3) := by decide +kernel
theorem dL_law_3 : decode cL_law 3 = .ok (.dup, 1) := by decide +kernel
theorem dL_law_4 : decode cL_law 4 = .ok (.invokespecial 9, 3) := by decide +kernel
theorem dL_law_7 : decode cL_law 7 = .ok (.astore_n 1, 1) := by decide +kernel
theorem dL_law_8 : decode cL_law 8 = .ok (.new 10, 3) := by decide +kernel
theorem dL_law_11 : decode cL_law 11 = .ok (.dup, 1) := by decide +kernel
theorem dL_law_12 : decode cL_law 12 = .ok (.invokespecial 12, 3) := by decide +kernel
theorem dL_law_15 : decode cL_law 15 = .ok (.astore_n 2, 1) := by decide +kernel
theorem dL_law_16 : decode cL_law 16 = .ok (.iconst 0, 1) := by decide +kernel
theorem dL_law_17 : decode cL_law 17 = .ok (.istore_n 3, 1) := by decide +kernel
theorem dL_law_18 : decode cL_law 18 = .ok (.iload_n 3, 1) := by decide +kernel
theorem dL_law_19 : decode cL_law 19 = .ok (.aload_n 0, 1) := by decide +kernel
theorem dL_law_20 : decode cL_law 20 = .ok (.arraylength, 1) := by decide +kernel
theorem dL_law_21 : decode cL_law 21 = .ok (.bipush 6, 2) := by decide +kernel
theorem dL_law_23 : decode cL_law 23 = .ok (.isub, 1) := by decide +kernel
theorem dL_law_24 : decode cL_law 24 = .ok (.if_icmp .gt 743, 3) := by decide +kernel
theorem dL_law_27 : decode cL_law 27 = .ok (.aload_n 0, 1) := by decide +kernel
theorem dL_law_28 : decode cL_law 28 = .ok (.iload_n 3, 1) := by decide +kernel
theorem dL_law_29 : decode cL_law 29 = .ok (.iaload, 1) := by decide +kernel
theorem dL_law_30 : decode cL_law 30 = .ok (.bipush 31, 2) := by decide +kernel
theorem dL_law_32 : decode cL_law 32 = .ok (.iand, 1) := by decide +kernel
theorem dL_law_33 : decode cL_law 33 = .ok (.tableswitch 728 0 19 #[95, 128, 151, 174, 197, 220, 293, 336, 370, 414, 427, 460, 523, 536, 599, 612, 625, 648, 681, 705], 95) := by decide +kernel
theorem dL_law_128 : decode cL_law 128 = .ok (.aload_n 1, 1) := by decide +kernel
theorem dL_law_129 : decode cL_law 129 = .ok (.aload_n 0, 1) := by decide +kernel
theorem dL_law_130 : decode cL_law 130 = .ok (.iload_n 3, 1) := by decide +kernel
theorem dL_law_131 : decode cL_law 131 = .ok (.iconst 1, 1) := by decide +kernel
theorem dL_law_132 : decode cL_law 132 = .ok (.iadd, 1) := by decide +kernel
theorem dL_law_133 : decode cL_law 133 = .ok (.iaload, 1) := by decide +kernel
theorem dL_law_134 : decode cL_law 134 = .ok (.aload_n 0, 1) := by decide +kernel
theorem dL_law_135 : decode cL_law 135 = .ok (.iload_n 3, 1) := by decide +kernel
theorem dL_law_136 : decode cL_law 136 = .ok (.iconst 2, 1) := by decide +kernel
theorem dL_law_137 : decode cL_law 137 = .ok (.iadd, 1) := by decide +kernel
theorem dL_law_138 : decode cL_law 138 = .ok (.iaload, 1) := by decide +kernel
theorem dL_law_139 : decode cL_law 139 = .ok (.invokevirtual 13, 3) := by decide +kernel
theorem dL_law_142 : decode cL_law 142 = .ok (.aload_n 2, 1) := by decide +kernel
theorem dL_law_143 : decode cL_law 143 = .ok (.aload_n 0, 1) := by decide +kernel
theorem dL_law_144 : decode cL_law 144 = .ok (.iload_n 3, 1) := by decide +kernel
theorem dL_law_145 : decode cL_law 145 = .ok (.iconst 1, 1) := by decide +kernel
theorem dL_law_146 : decode cL_law 146 = .ok (.iadd, 1) := by decide +kernel
theorem dL_law_147 : decode cL_law 147 = .ok (.iaload, 1) := by decide +kernel
theorem dL_law_148 : decode cL_law 148 = .ok (.aload_n 0, 1) := by decide +kernel
theorem dL_law_149 : decode cL_law 149 = .ok (.iload_n 3, 1) := by decide +kernel
theorem dL_law_150 : decode cL_law 150 = .ok (.iconst 2, 1) := by decide +kernel
theorem dL_law_151 : decode cL_law 151 = .ok (.iadd, 1) := by decide +kernel
theorem dL_law_152 : decode cL_law 152 = .ok (.iaload, 1) := by decide +kernel
theorem dL_law_153 : decode cL_law 153 = .ok (.invokevirtual 17, 3) := by decide +kernel
theorem dL_law_156 : decode cL_law 156 = .ok (.if_icmp .eq 605, 3) := by decide +kernel
theorem dL_law_159 : decode cL_law 159 = .ok (.iconst 0, 1) := by decide +kernel
theorem dL_law_160 : decode cL_law 160 = .ok (.ireturn, 1) := by decide +kernel
theorem dL_law_161 : decode cL_law 161 = .ok (.aload_n 1, 1) := by decide +kernel
theorem dL_law_162 : decode cL_law 162 = .ok (.aload_n 0, 1) := by decide +kernel
theorem dL_law_163 : decode cL_law 163 = .ok (.iload_n 3, 1) := by decide +kernel
theorem dL_law_164 : decode cL_law 164 = .ok (.iconst 1, 1) := by decide +kernel
theorem dL_law_165 : decode cL_law 165 = .ok (.iadd, 1) := by decide +kernel
theorem dL_law_166 : decode cL_law 166 = .ok (.iaload, 1) := by decide +kernel
theorem dL_law_167 : decode cL_law 167 = .ok (.invokevirtual 18, 3) := by decide +kernel
theorem dL_law_170 : decode cL_law 170 = .ok (.aload_n 2, 1) := by decide +kernel
theorem dL_law_171 : decode cL_law 171 = .ok (.aload_n 0, 1) := by decide +kernel
theorem dL_law_172 : decode cL_law 172 = .ok (.iload_n 3, 1) := by decide +kernel
theorem dL_law_173 : decode cL_law 173 = .ok (.iconst 1, 1) := by decide +kernel
theorem dL_law_174 : decode cL_law 174 = .ok (.iadd, 1) := by decide +kernel
theorem dL_law_175 : decode cL_law 175 = .ok (.iaload, 1) := by decide +kernel
theorem dL_law_176 : decode cL_law 176 = .ok (.invokevirtual 22, 3) := by decide +kernel
theorem dL_law_179 : decode cL_law 179 = .ok (.if_icmp .eq 582, 3) := by decide +kernel
theorem dL_law_182 : decode cL_law 182 = .ok (.iconst 0, 1) := by decide +kernel
theorem dL_law_183 : decode cL_law 183 = .ok (.ireturn, 1) := by decide +kernel
theorem dL_law_184 : decode cL_law 184 = .ok (.aload_n 1, 1) := by decide +kernel
theorem dL_law_185 : decode cL_law 185 = .ok (.aload_n 0, 1) := by decide +kernel
theorem dL_law_186 : decode cL_law 186 = .ok (.iload_n 3, 1) := by decide +kernel
theorem dL_law_187 : decode cL_law 187 = .ok (.iconst 1, 1) := by decide +kernel
theorem dL_law_188 : decode cL_law 188 = .ok (.iadd, 1) := by decide +kernel
theorem dL_law_189 : decode cL_law 189 = .ok (.iaload, 1) := by decide +kernel
theorem dL_law_190 : decode cL_law 190 = .ok (.invokevirtual 23, 3) := by decide +kernel
theorem dL_law_193 : decode cL_law 193 = .ok (.aload_n 2, 1) := by decide +kernel
theorem dL_law_194 : decode cL_law 194 = .ok (.aload_n 0, 1) := by decide +kernel
theorem dL_law_195 : decode cL_law 195 = .ok (.iload_n 3, 1) := by decide +kernel
theorem dL_law_196 : decode cL_law 196 = .ok (.iconst 1, 1) := by decide +kernel
theorem dL_law_197 : decode cL_law 197 = .ok (.iadd, 1) := by decide +kernel
theorem dL_law_198 : decode cL_law 198 = .ok (.iaload, 1) := by decide +kernel
theorem dL_law_199 : decode cL_law 199 = .ok (.invokevirtual 26, 3) := by decide +kernel
theorem dL_law_202 : decode cL_law 202 = .ok (.if_icmp .eq 559, 3) := by decide +kernel
theorem dL_law_205 : decode cL_law 205 = .ok (.iconst 0, 1) := by decide +kernel
theorem dL_law_206 : decode cL_law 206 = .ok (.ireturn, 1) := by decide +kernel
theorem dL_law_207 : decode cL_law 207 = .ok (.aload_n 1, 1) := by decide +kernel
theorem dL_law_208 : decode cL_law 208 = .ok (.aload_n 0, 1) := by decide +kernel
theorem dL_law_209 : decode cL_law 209 = .ok (.iload_n 3, 1) := by decide +kernel
theorem dL_law_210 : decode cL_law 210 = .ok (.iconst 1, 1) := by decide +kernel
theorem dL_law_211 : decode cL_law 211 = .ok (.iadd, 1) := by decide +kernel
theorem dL_law_212 : decode cL_law 212 = .ok (.iaload, 1) := by decide +kernel
theorem dL_law_213 : decode cL_law 213 = .ok (.invokevirtual 27, 3) := by decide +kernel
theorem dL_law_216 : decode cL_law 216 = .ok (.aload_n 2, 1) := by decide +kernel
theorem dL_law_217 : decode cL_law 217 = .ok (.aload_n 0, 1) := by decide +kernel
theorem dL_law_218 : decode cL_law 218 = .ok (.iload_n 3, 1) := by decide +kernel
theorem dL_law_219 : decode cL_law 219 = .ok (.iconst 1, 1) := by decide +kernel
theorem dL_law_220 : decode cL_law 220 = .ok (.iadd, 1) := by decide +kernel
theorem dL_law_221 : decode cL_law 221 = .ok (.iaload, 1) := by decide +kernel
theorem dL_law_222 : decode cL_law 222 = .ok (.invokevirtual 30, 3) := by decide +kernel
theorem dL_law_225 : decode cL_law 225 = .ok (.if_icmp .eq 536, 3) := by decide +kernel
theorem dL_law_228 : decode cL_law 228 = .ok (.iconst 0, 1) := by decide +kernel
theorem dL_law_229 : decode cL_law 229 = .ok (.ireturn, 1) := by decide +kernel
theorem dL_law_230 : decode cL_law 230 = .ok (.aload_n 1, 1) := by decide +kernel
theorem dL_law_231 : decode cL_law 231 = .ok (.aload_n 0, 1) := by decide +kernel
theorem dL_law_232 : decode cL_law 232 = .ok (.iload_n 3, 1) := by decide +kernel
theorem dL_law_233 : decode cL_law 233 = .ok (.iconst 1, 1) := by decide +kernel
theorem dL_law_234 : decode cL_law 234 = .ok (.iadd, 1) := by decide +kernel
theorem dL_law_235 : decode cL_law 235 = .ok (.iaload, 1) := by decide +kernel
theorem dL_law_236 : decode cL_law 236 = .ok (.invokevirtual 31, 3) := by decide +kernel
theorem dL_law_239 : decode cL_law 239 = .ok (.aload_n 2, 1) := by decide +kernel
theorem dL_law_240 : decode cL_law 240 = .ok (.aload_n 0, 1) := by decide +kernel
theorem dL_law_241 : decode cL_law 241 = .ok (.iload_n 3, 1) := by decide +kernel
theorem dL_law_242 : decode cL_law 242 = .ok (.iconst 1, 1) := by decide +kernel
theorem dL_law_243 : decode cL_law 243 = .ok (.iadd, 1) := by decide +kernel
theorem dL_law_244 : decode cL_law 244 = .ok (.iaload, 1) := by decide +kernel
theorem dL_law_245 : decode cL_law 245 = .ok (.invokevirtual 34, 3) := by decide +kernel
theorem dL_law_248 : decode cL_law 248 = .ok (.if_icmp .eq 513, 3) := by decide +kernel
theorem dL_law_251 : decode cL_law 251 = .ok (.iconst 0, 1) := by decide +kernel
theorem dL_law_252 : decode cL_law 252 = .ok (.ireturn, 1) := by decide +kernel
theorem dL_law_253 : decode cL_law 253 = .ok (.aload_n 1, 1) := by decide +kernel
theorem dL_law_254 : decode cL_law 254 = .ok (.aload_n 0, 1) := by decide +kernel
theorem dL_law_255 : decode cL_law 255 = .ok (.iload_n 3, 1) := by decide +kernel
theorem dL_law_256 : decode cL_law 256 = .ok (.iconst 1, 1) := by decide +kernel
theorem dL_law_257 : decode cL_law 257 = .ok (.iadd, 1) := by decide +kernel
theorem dL_law_258 : decode cL_law 258 = .ok (.iaload, 1) := by decide +kernel
theorem dL_law_259 : decode cL_law 259 = .ok (.aload_n 0, 1) := by decide +kernel
theorem dL_law_260 : decode cL_law 260 = .ok (.iload_n 3, 1) := by decide +kernel
theorem dL_law_261 : decode cL_law 261 = .ok (.iconst 2, 1) := by decide +kernel
theorem dL_law_262 : decode cL_law 262 = .ok (.iadd, 1) := by decide +kernel
theorem dL_law_263 : decode cL_law 263 = .ok (.iaload, 1) := by decide +kernel
theorem dL_law_264 : decode cL_law 264 = .ok (.aload_n 0, 1) := by decide +kernel
theorem dL_law_265 : decode cL_law 265 = .ok (.iload_n 3, 1) := by decide +kernel
theorem dL_law_266 : decode cL_law 266 = .ok (.iconst 3, 1) := by decide +kernel
theorem dL_law_267 : decode cL_law 267 = .ok (.iadd, 1) := by decide +kernel
theorem dL_law_268 : decode cL_law 268 = .ok (.iaload, 1) := by decide +kernel
theorem dL_law_269 : decode cL_law 269 = .ok (.i2l, 1) := by decide +kernel
theorem dL_law_270 : decode cL_law 270 = .ok (.bipush 32, 2) := by decide +kernel
theorem dL_law_272 : decode cL_law 272 = .ok (.lshl, 1) := by decide +kernel
theorem dL_law_273 : decode cL_law 273 = .ok (.aload_n 0, 1) := by decide +kernel
theorem dL_law_274 : decode cL_law 274 = .ok (.iload_n 3, 1) := by decide +kernel
theorem dL_law_275 : decode cL_law 275 = .ok (.iconst 4, 1) := by decide +kernel
theorem dL_law_276 : decode cL_law 276 = .ok (.iadd, 1) := by decide +kernel
theorem dL_law_277 : decode cL_law 277 = .ok (.iaload, 1) := by decide +kernel
theorem dL_law_278 : decode cL_law 278 = .ok (.i2l, 1) := by decide +kernel
theorem dL_law_279 : decode cL_law 279 = .ok (.ldc2_w 35, 3) := by decide +kernel
theorem dL_law_282 : decode cL_law 282 = .ok (.land, 1) := by decide +kernel
theorem dL_law_283 : decode cL_law 283 = .ok (.lor, 1) := by decide +kernel
theorem dL_law_284 : decode cL_law 284 = .ok (.invokevirtual 37, 3) := by decide +kernel
theorem dL_law_287 : decode cL_law 287 = .ok (.aload_n 2, 1) := by decide +kernel
theorem dL_law_288 : decode cL_law 288 = .ok (.aload_n 0, 1) := by decide +kernel
theorem dL_law_289 : decode cL_law 289 = .ok (.iload_n 3, 1) := by decide +kernel
theorem dL_law_290 : decode cL_law 290 = .ok (.iconst 1, 1) := by decide +kernel
theorem dL_law_291 : decode cL_law 291 = .ok (.iadd, 1) := by decide +kernel
theorem dL_law_292 : decode cL_law 292 = .ok (.iaload, 1) := by decide +kernel
theorem dL_law_293 : decode cL_law 293 = .ok (.aload_n 0, 1) := by decide +kernel
theorem dL_law_294 : decode cL_law 294 = .ok (.iload_n 3, 1) := by decide +kernel
theorem dL_law_295 : decode cL_law 295 = .ok (.iconst 2, 1) := by decide +kernel
theorem dL_law_296 : decode cL_law 296 = .ok (.iadd, 1) := by decide +kernel
theorem dL_law_297 : decode cL_law 297 = .ok (.iaload, 1) := by decide +kernel
theorem dL_law_298 : decode cL_law 298 = .ok (.aload_n 0, 1) := by decide +kernel
theorem dL_law_299 : decode cL_law 299 = .ok (.iload_n 3, 1) := by decide +kernel
theorem dL_law_300 : decode cL_law 300 = .ok (.iconst 3, 1) := by decide +kernel
theorem dL_law_301 : decode cL_law 301 = .ok (.iadd, 1) := by decide +kernel
theorem dL_law_302 : decode cL_law 302 = .ok (.iaload, 1) := by decide +kernel
theorem dL_law_303 : decode cL_law 303 = .ok (.i2l, 1) := by decide +kernel
theorem dL_law_304 : decode cL_law 304 = .ok (.bipush 32, 2) := by decide +kernel
theorem dL_law_306 : decode cL_law 306 = .ok (.lshl, 1) := by decide +kernel
theorem dL_law_307 : decode cL_law 307 = .ok (.aload_n 0, 1) := by decide +kernel
theorem dL_law_308 : decode cL_law 308 = .ok (.iload_n 3, 1) := by decide +kernel
theorem dL_law_309 : decode cL_law 309 = .ok (.iconst 4, 1) := by decide +kernel
theorem dL_law_310 : decode cL_law 310 = .ok (.iadd, 1) := by decide +kernel
theorem dL_law_311 : decode cL_law 311 = .ok (.iaload, 1) := by decide +kernel
theorem dL_law_312 : decode cL_law 312 = .ok (.i2l, 1) := by decide +kernel
theorem dL_law_313 : decode cL_law 313 = .ok (.ldc2_w 35, 3) := by decide +kernel
theorem dL_law_316 : decode cL_law 316 = .ok (.land, 1) := by decide +kernel
theorem dL_law_317 : decode cL_law 317 = .ok (.lor, 1) := by decide +kernel
theorem dL_law_318 : decode cL_law 318 = .ok (.invokevirtual 41, 3) := by decide +kernel
theorem dL_law_321 : decode cL_law 321 = .ok (.if_icmp .eq 440, 3) := by decide +kernel
theorem dL_law_324 : decode cL_law 324 = .ok (.iconst 0, 1) := by decide +kernel
theorem dL_law_325 : decode cL_law 325 = .ok (.ireturn, 1) := by decide +kernel
theorem dL_law_326 : decode cL_law 326 = .ok (.aload_n 1, 1) := by decide +kernel
theorem dL_law_327 : decode cL_law 327 = .ok (.aload_n 0, 1) := by decide +kernel
theorem dL_law_328 : decode cL_law 328 = .ok (.iload_n 3, 1) := by decide +kernel
theorem dL_law_329 : decode cL_law 329 = .ok (.iconst 1, 1) := by decide +kernel
theorem dL_law_330 : decode cL_law 330 = .ok (.iadd, 1) := by decide +kernel
theorem dL_law_331 : decode cL_law 331 = .ok (.iaload, 1) := by decide +kernel
theorem dL_law_332 : decode cL_law 332 = .ok (.aload_n 0, 1) := by decide +kernel
theorem dL_law_333 : decode cL_law 333 = .ok (.iload_n 3, 1) := by decide +kernel
theorem dL_law_334 : decode cL_law 334 = .ok (.iconst 2, 1) := by decide +kernel
theorem dL_law_335 : decode cL_law 335 = .ok (.iadd, 1) := by decide +kernel
theorem dL_law_336 : decode cL_law 336 = .ok (.iaload, 1) := by decide +kernel
theorem dL_law_337 : decode cL_law 337 = .ok (.aload_n 0, 1) := by decide +kernel
theorem dL_law_338 : decode cL_law 338 = .ok (.iload_n 3, 1) := by decide +kernel
theorem dL_law_339 : decode cL_law 339 = .ok (.iconst 3, 1) := by decide +kernel
theorem dL_law_340 : decode cL_law 340 = .ok (.iadd, 1) := by decide +kernel
theorem dL_law_341 : decode cL_law 341 = .ok (.iaload, 1) := by decide +kernel
theorem dL_law_342 : decode cL_law 342 = .ok (.invokevirtual 42, 3) := by decide +kernel
theorem dL_law_345 : decode cL_law 345 = .ok (.aload_n 2, 1) := by decide +kernel
theorem dL_law_346 : decode cL_law 346 = .ok (.aload_n 0, 1) := by decide +kernel
theorem dL_law_347 : decode cL_law 347 = .ok (.iload_n 3, 1) := by decide +kernel
theorem dL_law_348 : decode cL_law 348 = .ok (.iconst 1, 1) := by decide +kernel
theorem dL_law_349 : decode cL_law 349 = .ok (.iadd, 1) := by decide +kernel
theorem dL_law_350 : decode cL_law 350 = .ok (.iaload, 1) := by decide +kernel
theorem dL_law_351 : decode cL_law 351 = .ok (.aload_n 0, 1) := by decide +kernel
theorem dL_law_352 : decode cL_law 352 = .ok (.iload_n 3, 1) := by decide +kernel
theorem dL_law_353 : decode cL_law 353 = .ok (.iconst 2, 1) := by decide +kernel
theorem dL_law_354 : decode cL_law 354 = .ok (.iadd, 1) := by decide +kernel
theorem dL_law_355 : decode cL_law 355 = .ok (.iaload, 1) := by decide +kernel
theorem dL_law_356 : decode cL_law 356 = .ok (.aload_n 0, 1) := by decide +kernel
theorem dL_law_357 : decode cL_law 357 = .ok (.iload_n 3, 1) := by decide +kernel
theorem dL_law_358 : decode cL_law 358 = .ok (.iconst 3, 1) := by decide +kernel
theorem dL_law_359 : decode cL_law 359 = .ok (.iadd, 1) := by decide +kernel
theorem dL_law_360 : decode cL_law 360 = .ok (.iaload, 1) := by decide +kernel
theorem dL_law_361 : decode cL_law 361 = .ok (.invokevirtual 46, 3) := by decide +kernel
theorem dL_law_364 : decode cL_law 364 = .ok (.if_icmp .eq 397, 3) := by decide +kernel
theorem dL_law_367 : decode cL_law 367 = .ok (.iconst 0, 1) := by decide +kernel
theorem dL_law_368 : decode cL_law 368 = .ok (.ireturn, 1) := by decide +kernel
theorem dL_law_369 : decode cL_law 369 = .ok (.aload_n 1, 1) := by decide +kernel
theorem dL_law_370 : decode cL_law 370 = .ok (.aload_n 0, 1) := by decide +kernel
theorem dL_law_371 : decode cL_law 371 = .ok (.iload_n 3, 1) := by decide +kernel
theorem dL_law_372 : decode cL_law 372 = .ok (.iconst 1, 1) := by decide +kernel
theorem dL_law_373 : decode cL_law 373 = .ok (.iadd, 1) := by decide +kernel
theorem dL_law_374 : decode cL_law 374 = .ok (.iaload, 1) := by decide +kernel
theorem dL_law_375 : decode cL_law 375 = .ok (.aload_n 0, 1) := by decide +kernel
theorem dL_law_376 : decode cL_law 376 = .ok (.iload_n 3, 1) := by decide +kernel
theorem dL_law_377 : decode cL_law 377 = .ok (.iconst 2, 1) := by decide +kernel
theorem dL_law_378 : decode cL_law 378 = .ok (.iadd, 1) := by decide +kernel
theorem dL_law_379 : decode cL_law 379 = .ok (.iaload, 1) := by decide +kernel
theorem dL_law_380 : decode cL_law 380 = .ok (.invokevirtual 47, 3) := by decide +kernel
theorem dL_law_383 : decode cL_law 383 = .ok (.aload_n 2, 1) := by decide +kernel
theorem dL_law_384 : decode cL_law 384 = .ok (.aload_n 0, 1) := by decide +kernel
theorem dL_law_385 : decode cL_law 385 = .ok (.iload_n 3, 1) := by decide +kernel
theorem dL_law_386 : decode cL_law 386 = .ok (.iconst 1, 1) := by decide +kernel
theorem dL_law_387 : decode cL_law 387 = .ok (.iadd, 1) := by decide +kernel
theorem dL_law_388 : decode cL_law 388 = .ok (.iaload, 1) := by decide +kernel
theorem dL_law_389 : decode cL_law 389 = .ok (.aload_n 0, 1) := by decide +kernel
theorem dL_law_390 : decode cL_law 390 = .ok (.iload_n 3, 1) := by decide +kernel
theorem dL_law_391 : decode cL_law 391 = .ok (.iconst 2, 1) := by decide +kernel
theorem dL_law_392 : decode cL_law 392 = .ok (.iadd, 1) := by decide +kernel
theorem dL_law_393 : decode cL_law 393 = .ok (.iaload, 1) := by decide +kernel
theorem dL_law_394 : decode cL_law 394 = .ok (.invokevirtual 51, 3) := by decide +kernel
theorem dL_law_397 : decode cL_law 397 = .ok (.lcmp, 1) := by decide +kernel
theorem dL_law_398 : decode cL_law 398 = .ok (.ifCond .eq 363, 3) := by decide +kernel
theorem dL_law_401 : decode cL_law 401 = .ok (.iconst 0, 1) := by decide +kernel
theorem dL_law_402 : decode cL_law 402 = .ok (.ireturn, 1) := by decide +kernel
theorem dL_law_403 : decode cL_law 403 = .ok (.aload_n 1, 1) := by decide +kernel
theorem dL_law_404 : decode cL_law 404 = .ok (.aload_n 0, 1) := by decide +kernel
theorem dL_law_405 : decode cL_law 405 = .ok (.iload_n 3, 1) := by decide +kernel
theorem dL_law_406 : decode cL_law 406 = .ok (.iconst 1, 1) := by decide +kernel
theorem dL_law_407 : decode cL_law 407 = .ok (.iadd, 1) := by decide +kernel
theorem dL_law_408 : decode cL_law 408 = .ok (.iaload, 1) := by decide +kernel
theorem dL_law_409 : decode cL_law 409 = .ok (.aload_n 0, 1) := by decide +kernel
theorem dL_law_410 : decode cL_law 410 = .ok (.iload_n 3, 1) := by decide +kernel
theorem dL_law_411 : decode cL_law 411 = .ok (.iconst 2, 1) := by decide +kernel
theorem dL_law_412 : decode cL_law 412 = .ok (.iadd, 1) := by decide +kernel
theorem dL_law_413 : decode cL_law 413 = .ok (.iaload, 1) := by decide +kernel
theorem dL_law_414 : decode cL_law 414 = .ok (.aload_n 0, 1) := by decide +kernel
theorem dL_law_415 : decode cL_law 415 = .ok (.iload_n 3, 1) := by decide +kernel
theorem dL_law_416 : decode cL_law 416 = .ok (.iconst 3, 1) := by decide +kernel
theorem dL_law_417 : decode cL_law 417 = .ok (.iadd, 1) := by decide +kernel
theorem dL_law_418 : decode cL_law 418 = .ok (.iaload, 1) := by decide +kernel
theorem dL_law_419 : decode cL_law 419 = .ok (.invokevirtual 52, 3) := by decide +kernel
theorem dL_law_422 : decode cL_law 422 = .ok (.aload_n 2, 1) := by decide +kernel
theorem dL_law_423 : decode cL_law 423 = .ok (.aload_n 0, 1) := by decide +kernel
theorem dL_law_424 : decode cL_law 424 = .ok (.iload_n 3, 1) := by decide +kernel
theorem dL_law_425 : decode cL_law 425 = .ok (.iconst 1, 1) := by decide +kernel
theorem dL_law_426 : decode cL_law 426 = .ok (.iadd, 1) := by decide +kernel
theorem dL_law_427 : decode cL_law 427 = .ok (.iaload, 1) := by decide +kernel
theorem dL_law_428 : decode cL_law 428 = .ok (.aload_n 0, 1) := by decide +kernel
theorem dL_law_429 : decode cL_law 429 = .ok (.iload_n 3, 1) := by decide +kernel
theorem dL_law_430 : decode cL_law 430 = .ok (.iconst 2, 1) := by decide +kernel
theorem dL_law_431 : decode cL_law 431 = .ok (.iadd, 1) := by decide +kernel
theorem dL_law_432 : decode cL_law 432 = .ok (.iaload, 1) := by decide +kernel
theorem dL_law_433 : decode cL_law 433 = .ok (.aload_n 0, 1) := by decide +kernel
theorem dL_law_434 : decode cL_law 434 = .ok (.iload_n 3, 1) := by decide +kernel
theorem dL_law_435 : decode cL_law 435 = .ok (.iconst 3, 1) := by decide +kernel
theorem dL_law_436 : decode cL_law 436 = .ok (.iadd, 1) := by decide +kernel
theorem dL_law_437 : decode cL_law 437 = .ok (.iaload, 1) := by decide +kernel
theorem dL_law_438 : decode cL_law 438 = .ok (.invokevirtual 56, 3) := by decide +kernel
theorem dL_law_441 : decode cL_law 441 = .ok (.lcmp, 1) := by decide +kernel
theorem dL_law_442 : decode cL_law 442 = .ok (.ifCond .eq 319, 3) := by decide +kernel
theorem dL_law_445 : decode cL_law 445 = .ok (.iconst 0, 1) := by decide +kernel
theorem dL_law_446 : decode cL_law 446 = .ok (.ireturn, 1) := by decide +kernel
theorem dL_law_447 : decode cL_law 447 = .ok (.aload_n 1, 1) := by decide +kernel
theorem dL_law_448 : decode cL_law 448 = .ok (.invokevirtual 57, 3) := by decide +kernel
theorem dL_law_451 : decode cL_law 451 = .ok (.aload_n 2, 1) := by decide +kernel
theorem dL_law_452 : decode cL_law 452 = .ok (.invokevirtual 61, 3) := by decide +kernel
theorem dL_law_455 : decode cL_law 455 = .ok (.if_icmp .eq 306, 3) := by decide +kernel
theorem dL_law_458 : decode cL_law 458 = .ok (.iconst 0, 1) := by decide +kernel
theorem dL_law_459 : decode cL_law 459 = .ok (.ireturn, 1) := by decide +kernel
theorem dL_law_460 : decode cL_law 460 = .ok (.aload_n 1, 1) := by decide +kernel
theorem dL_law_461 : decode cL_law 461 = .ok (.aload_n 0, 1) := by decide +kernel
theorem dL_law_462 : decode cL_law 462 = .ok (.iload_n 3, 1) := by decide +kernel
theorem dL_law_463 : decode cL_law 463 = .ok (.iconst 1, 1) := by decide +kernel
theorem dL_law_464 : decode cL_law 464 = .ok (.iadd, 1) := by decide +kernel
theorem dL_law_465 : decode cL_law 465 = .ok (.iaload, 1) := by decide +kernel
theorem dL_law_466 : decode cL_law 466 = .ok (.aload_n 0, 1) := by decide +kernel
theorem dL_law_467 : decode cL_law 467 = .ok (.iload_n 3, 1) := by decide +kernel
theorem dL_law_468 : decode cL_law 468 = .ok (.iconst 2, 1) := by decide +kernel
theorem dL_law_469 : decode cL_law 469 = .ok (.iadd, 1) := by decide +kernel
theorem dL_law_470 : decode cL_law 470 = .ok (.iaload, 1) := by decide +kernel
theorem dL_law_471 : decode cL_law 471 = .ok (.invokevirtual 62, 3) := by decide +kernel
theorem dL_law_474 : decode cL_law 474 = .ok (.aload_n 2, 1) := by decide +kernel
theorem dL_law_475 : decode cL_law 475 = .ok (.aload_n 0, 1) := by decide +kernel
theorem dL_law_476 : decode cL_law 476 = .ok (.iload_n 3, 1) := by decide +kernel
theorem dL_law_477 : decode cL_law 477 = .ok (.iconst 1, 1) := by decide +kernel
theorem dL_law_478 : decode cL_law 478 = .ok (.iadd, 1) := by decide +kernel
theorem dL_law_479 : decode cL_law 479 = .ok (.iaload, 1) := by decide +kernel
theorem dL_law_480 : decode cL_law 480 = .ok (.aload_n 0, 1) := by decide +kernel
theorem dL_law_481 : decode cL_law 481 = .ok (.iload_n 3, 1) := by decide +kernel
theorem dL_law_482 : decode cL_law 482 = .ok (.iconst 2, 1) := by decide +kernel
theorem dL_law_483 : decode cL_law 483 = .ok (.iadd, 1) := by decide +kernel
theorem dL_law_484 : decode cL_law 484 = .ok (.iaload, 1) := by decide +kernel
theorem dL_law_485 : decode cL_law 485 = .ok (.invokevirtual 65, 3) := by decide +kernel
theorem dL_law_488 : decode cL_law 488 = .ok (.if_icmp .eq 273, 3) := by decide +kernel
theorem dL_law_491 : decode cL_law 491 = .ok (.iconst 0, 1) := by decide +kernel
theorem dL_law_492 : decode cL_law 492 = .ok (.ireturn, 1) := by decide +kernel
theorem dL_law_493 : decode cL_law 493 = .ok (.aload_n 1, 1) := by decide +kernel
theorem dL_law_494 : decode cL_law 494 = .ok (.aload_n 0, 1) := by decide +kernel
theorem dL_law_495 : decode cL_law 495 = .ok (.iload_n 3, 1) := by decide +kernel
theorem dL_law_496 : decode cL_law 496 = .ok (.iconst 1, 1) := by decide +kernel
theorem dL_law_497 : decode cL_law 497 = .ok (.iadd, 1) := by decide +kernel
theorem dL_law_498 : decode cL_law 498 = .ok (.iaload, 1) := by decide +kernel
theorem dL_law_499 : decode cL_law 499 = .ok (.aload_n 0, 1) := by decide +kernel
theorem dL_law_500 : decode cL_law 500 = .ok (.iload_n 3, 1) := by decide +kernel
theorem dL_law_501 : decode cL_law 501 = .ok (.iconst 2, 1) := by decide +kernel
theorem dL_law_502 : decode cL_law 502 = .ok (.iadd, 1) := by decide +kernel
theorem dL_law_503 : decode cL_law 503 = .ok (.iaload, 1) := by decide +kernel
theorem dL_law_504 : decode cL_law 504 = .ok (.aload_n 0, 1) := by decide +kernel
theorem dL_law_505 : decode cL_law 505 = .ok (.iload_n 3, 1) := by decide +kernel
theorem dL_law_506 : decode cL_law 506 = .ok (.iconst 3, 1) := by decide +kernel
theorem dL_law_507 : decode cL_law 507 = .ok (.iadd, 1) := by decide +kernel
theorem dL_law_508 : decode cL_law 508 = .ok (.iaload, 1) := by decide +kernel
theorem dL_law_509 : decode cL_law 509 = .ok (.aload_n 0, 1) := by decide +kernel
theorem dL_law_510 : decode cL_law 510 = .ok (.iload_n 3, 1) := by decide +kernel
theorem dL_law_511 : decode cL_law 511 = .ok (.iconst 4, 1) := by decide +kernel
theorem dL_law_512 : decode cL_law 512 = .ok (.iadd, 1) := by decide +kernel
theorem dL_law_513 : decode cL_law 513 = .ok (.iaload, 1) := by decide +kernel
theorem dL_law_514 : decode cL_law 514 = .ok (.aload_n 0, 1) := by decide +kernel
theorem dL_law_515 : decode cL_law 515 = .ok (.iload_n 3, 1) := by decide +kernel
theorem dL_law_516 : decode cL_law 516 = .ok (.iconst 5, 1) := by decide +kernel
theorem dL_law_517 : decode cL_law 517 = .ok (.iadd, 1) := by decide +kernel
theorem dL_law_518 : decode cL_law 518 = .ok (.iaload, 1) := by decide +kernel
theorem dL_law_519 : decode cL_law 519 = .ok (.invokevirtual 66, 3) := by decide +kernel
theorem dL_law_522 : decode cL_law 522 = .ok (.aload_n 2, 1) := by decide +kernel
theorem dL_law_523 : decode cL_law 523 = .ok (.aload_n 0, 1) := by decide +kernel
theorem dL_law_524 : decode cL_law 524 = .ok (.iload_n 3, 1) := by decide +kernel
theorem dL_law_525 : decode cL_law 525 = .ok (.iconst 1, 1) := by decide +kernel
theorem dL_law_526 : decode cL_law 526 = .ok (.iadd, 1) := by decide +kernel
theorem dL_law_527 : decode cL_law 527 = .ok (.iaload, 1) := by decide +kernel
theorem dL_law_528 : decode cL_law 528 = .ok (.aload_n 0, 1) := by decide +kernel
theorem dL_law_529 : decode cL_law 529 = .ok (.iload_n 3, 1) := by decide +kernel
theorem dL_law_530 : decode cL_law 530 = .ok (.iconst 2, 1) := by decide +kernel
theorem dL_law_531 : decode cL_law 531 = .ok (.iadd, 1) := by decide +kernel
theorem dL_law_532 : decode cL_law 532 = .ok (.iaload, 1) := by decide +kernel
theorem dL_law_533 : decode cL_law 533 = .ok (.aload_n 0, 1) := by decide +kernel
theorem dL_law_534 : decode cL_law 534 = .ok (.iload_n 3, 1) := by decide +kernel
theorem dL_law_535 : decode cL_law 535 = .ok (.iconst 3, 1) := by decide +kernel
theorem dL_law_536 : decode cL_law 536 = .ok (.iadd, 1) := by decide +kernel
theorem dL_law_537 : decode cL_law 537 = .ok (.iaload, 1) := by decide +kernel
theorem dL_law_538 : decode cL_law 538 = .ok (.aload_n 0, 1) := by decide +kernel
theorem dL_law_539 : decode cL_law 539 = .ok (.iload_n 3, 1) := by decide +kernel
theorem dL_law_540 : decode cL_law 540 = .ok (.iconst 4, 1) := by decide +kernel
theorem dL_law_541 : decode cL_law 541 = .ok (.iadd, 1) := by decide +kernel
theorem dL_law_542 : decode cL_law 542 = .ok (.iaload, 1) := by decide +kernel
theorem dL_law_543 : decode cL_law 543 = .ok (.aload_n 0, 1) := by decide +kernel
theorem dL_law_544 : decode cL_law 544 = .ok (.iload_n 3, 1) := by decide +kernel
theorem dL_law_545 : decode cL_law 545 = .ok (.iconst 5, 1) := by decide +kernel
theorem dL_law_546 : decode cL_law 546 = .ok (.iadd, 1) := by decide +kernel
theorem dL_law_547 : decode cL_law 547 = .ok (.iaload, 1) := by decide +kernel
theorem dL_law_548 : decode cL_law 548 = .ok (.invokevirtual 70, 3) := by decide +kernel
theorem dL_law_551 : decode cL_law 551 = .ok (.if_icmp .eq 210, 3) := by decide +kernel
theorem dL_law_554 : decode cL_law 554 = .ok (.iconst 0, 1) := by decide +kernel
theorem dL_law_555 : decode cL_law 555 = .ok (.ireturn, 1) := by decide +kernel
theorem dL_law_556 : decode cL_law 556 = .ok (.aload_n 1, 1) := by decide +kernel
theorem dL_law_557 : decode cL_law 557 = .ok (.invokevirtual 71, 3) := by decide +kernel
theorem dL_law_560 : decode cL_law 560 = .ok (.aload_n 2, 1) := by decide +kernel
theorem dL_law_561 : decode cL_law 561 = .ok (.invokevirtual 74, 3) := by decide +kernel
theorem dL_law_564 : decode cL_law 564 = .ok (.if_icmp .eq 197, 3) := by decide +kernel
theorem dL_law_567 : decode cL_law 567 = .ok (.iconst 0, 1) := by decide +kernel
theorem dL_law_568 : decode cL_law 568 = .ok (.ireturn, 1) := by decide +kernel
theorem dL_law_569 : decode cL_law 569 = .ok (.aload_n 1, 1) := by decide +kernel
theorem dL_law_570 : decode cL_law 570 = .ok (.aload_n 0, 1) := by decide +kernel
theorem dL_law_571 : decode cL_law 571 = .ok (.iload_n 3, 1) := by decide +kernel
theorem dL_law_572 : decode cL_law 572 = .ok (.iconst 1, 1) := by decide +kernel
theorem dL_law_573 : decode cL_law 573 = .ok (.iadd, 1) := by decide +kernel
theorem dL_law_574 : decode cL_law 574 = .ok (.iaload, 1) := by decide +kernel
theorem dL_law_575 : decode cL_law 575 = .ok (.aload_n 0, 1) := by decide +kernel
theorem dL_law_576 : decode cL_law 576 = .ok (.iload_n 3, 1) := by decide +kernel
theorem dL_law_577 : decode cL_law 577 = .ok (.iconst 2, 1) := by decide +kernel
theorem dL_law_578 : decode cL_law 578 = .ok (.iadd, 1) := by decide +kernel
theorem dL_law_579 : decode cL_law 579 = .ok (.iaload, 1) := by decide +kernel
theorem dL_law_580 : decode cL_law 580 = .ok (.aload_n 0, 1) := by decide +kernel
theorem dL_law_581 : decode cL_law 581 = .ok (.iload_n 3, 1) := by decide +kernel
theorem dL_law_582 : decode cL_law 582 = .ok (.iconst 3, 1) := by decide +kernel
theorem dL_law_583 : decode cL_law 583 = .ok (.iadd, 1) := by decide +kernel
theorem dL_law_584 : decode cL_law 584 = .ok (.iaload, 1) := by decide +kernel
theorem dL_law_585 : decode cL_law 585 = .ok (.aload_n 0, 1) := by decide +kernel
theorem dL_law_586 : decode cL_law 586 = .ok (.iload_n 3, 1) := by decide +kernel
theorem dL_law_587 : decode cL_law 587 = .ok (.iconst 4, 1) := by decide +kernel
theorem dL_law_588 : decode cL_law 588 = .ok (.iadd, 1) := by decide +kernel
theorem dL_law_589 : decode cL_law 589 = .ok (.iaload, 1) := by decide +kernel
theorem dL_law_590 : decode cL_law 590 = .ok (.aload_n 0, 1) := by decide +kernel
theorem dL_law_591 : decode cL_law 591 = .ok (.iload_n 3, 1) := by decide +kernel
theorem dL_law_592 : decode cL_law 592 = .ok (.iconst 5, 1) := by decide +kernel
theorem dL_law_593 : decode cL_law 593 = .ok (.iadd, 1) := by decide +kernel
theorem dL_law_594 : decode cL_law 594 = .ok (.iaload, 1) := by decide +kernel
theorem dL_law_595 : decode cL_law 595 = .ok (.invokevirtual 75, 3) := by decide +kernel
theorem dL_law_598 : decode cL_law 598 = .ok (.aload_n 2, 1) := by decide +kernel
theorem dL_law_599 : decode cL_law 599 = .ok (.aload_n 0, 1) := by decide +kernel
theorem dL_law_600 : decode cL_law 600 = .ok (.iload_n 3, 1) := by decide +kernel
theorem dL_law_601 : decode cL_law 601 = .ok (.iconst 1, 1) := by decide +kernel
theorem dL_law_602 : decode cL_law 602 = .ok (.iadd, 1) := by decide +kernel
theorem dL_law_603 : decode cL_law 603 = .ok (.iaload, 1) := by decide +kernel
theorem dL_law_604 : decode cL_law 604 = .ok (.aload_n 0, 1) := by decide +kernel
theorem dL_law_605 : decode cL_law 605 = .ok (.iload_n 3, 1) := by decide +kernel
theorem dL_law_606 : decode cL_law 606 = .ok (.iconst 2, 1) := by decide +kernel
theorem dL_law_607 : decode cL_law 607 = .ok (.iadd, 1) := by decide +kernel
theorem dL_law_608 : decode cL_law 608 = .ok (.iaload, 1) := by decide +kernel
theorem dL_law_609 : decode cL_law 609 = .ok (.aload_n 0, 1) := by decide +kernel
theorem dL_law_610 : decode cL_law 610 = .ok (.iload_n 3, 1) := by decide +kernel
theorem dL_law_611 : decode cL_law 611 = .ok (.iconst 3, 1) := by decide +kernel
theorem dL_law_612 : decode cL_law 612 = .ok (.iadd, 1) := by decide +kernel
theorem dL_law_613 : decode cL_law 613 = .ok (.iaload, 1) := by decide +kernel
theorem dL_law_614 : decode cL_law 614 = .ok (.aload_n 0, 1) := by decide +kernel
theorem dL_law_615 : decode cL_law 615 = .ok (.iload_n 3, 1) := by decide +kernel
theorem dL_law_616 : decode cL_law 616 = .ok (.iconst 4, 1) := by decide +kernel
theorem dL_law_617 : decode cL_law 617 = .ok (.iadd, 1) := by decide +kernel
theorem dL_law_618 : decode cL_law 618 = .ok (.iaload, 1) := by decide +kernel
theorem dL_law_619 : decode cL_law 619 = .ok (.aload_n 0, 1) := by decide +kernel
theorem dL_law_620 : decode cL_law 620 = .ok (.iload_n 3, 1) := by decide +kernel
theorem dL_law_621 : decode cL_law 621 = .ok (.iconst 5, 1) := by decide +kernel
theorem dL_law_622 : decode cL_law 622 = .ok (.iadd, 1) := by decide +kernel
theorem dL_law_623 : decode cL_law 623 = .ok (.iaload, 1) := by decide +kernel
theorem dL_law_624 : decode cL_law 624 = .ok (.invokevirtual 78, 3) := by decide +kernel
theorem dL_law_627 : decode cL_law 627 = .ok (.if_icmp .eq 134, 3) := by decide +kernel
theorem dL_law_630 : decode cL_law 630 = .ok (.iconst 0, 1) := by decide +kernel
theorem dL_law_631 : decode cL_law 631 = .ok (.ireturn, 1) := by decide +kernel
theorem dL_law_632 : decode cL_law 632 = .ok (.aload_n 1, 1) := by decide +kernel
theorem dL_law_633 : decode cL_law 633 = .ok (.invokevirtual 79, 3) := by decide +kernel
theorem dL_law_636 : decode cL_law 636 = .ok (.aload_n 2, 1) := by decide +kernel
theorem dL_law_637 : decode cL_law 637 = .ok (.invokevirtual 82, 3) := by decide +kernel
theorem dL_law_640 : decode cL_law 640 = .ok (.if_icmp .eq 121, 3) := by decide +kernel
theorem dL_law_643 : decode cL_law 643 = .ok (.iconst 0, 1) := by decide +kernel
theorem dL_law_644 : decode cL_law 644 = .ok (.ireturn, 1) := by decide +kernel
theorem dL_law_645 : decode cL_law 645 = .ok (.aload_n 1, 1) := by decide +kernel
theorem dL_law_646 : decode cL_law 646 = .ok (.invokevirtual 83, 3) := by decide +kernel
theorem dL_law_649 : decode cL_law 649 = .ok (.aload_n 2, 1) := by decide +kernel
theorem dL_law_650 : decode cL_law 650 = .ok (.invokevirtual 86, 3) := by decide +kernel
theorem dL_law_653 : decode cL_law 653 = .ok (.if_icmp .eq 108, 3) := by decide +kernel
theorem dL_law_656 : decode cL_law 656 = .ok (.iconst 0, 1) := by decide +kernel
theorem dL_law_657 : decode cL_law 657 = .ok (.ireturn, 1) := by decide +kernel
theorem dL_law_658 : decode cL_law 658 = .ok (.aload_n 1, 1) := by decide +kernel
theorem dL_law_659 : decode cL_law 659 = .ok (.aload_n 0, 1) := by decide +kernel
theorem dL_law_660 : decode cL_law 660 = .ok (.iload_n 3, 1) := by decide +kernel
theorem dL_law_661 : decode cL_law 661 = .ok (.iconst 1, 1) := by decide +kernel
theorem dL_law_662 : decode cL_law 662 = .ok (.iadd, 1) := by decide +kernel
theorem dL_law_663 : decode cL_law 663 = .ok (.iaload, 1) := by decide +kernel
theorem dL_law_664 : decode cL_law 664 = .ok (.invokevirtual 87, 3) := by decide +kernel
theorem dL_law_667 : decode cL_law 667 = .ok (.aload_n 2, 1) := by decide +kernel
theorem dL_law_668 : decode cL_law 668 = .ok (.aload_n 0, 1) := by decide +kernel
theorem dL_law_669 : decode cL_law 669 = .ok (.iload_n 3, 1) := by decide +kernel
theorem dL_law_670 : decode cL_law 670 = .ok (.iconst 1, 1) := by decide +kernel
theorem dL_law_671 : decode cL_law 671 = .ok (.iadd, 1) := by decide +kernel
theorem dL_law_672 : decode cL_law 672 = .ok (.iaload, 1) := by decide +kernel
theorem dL_law_673 : decode cL_law 673 = .ok (.invokevirtual 90, 3) := by decide +kernel
theorem dL_law_676 : decode cL_law 676 = .ok (.if_icmp .eq 85, 3) := by decide +kernel
theorem dL_law_679 : decode cL_law 679 = .ok (.iconst 0, 1) := by decide +kernel
theorem dL_law_680 : decode cL_law 680 = .ok (.ireturn, 1) := by decide +kernel
theorem dL_law_681 : decode cL_law 681 = .ok (.aload_n 1, 1) := by decide +kernel
theorem dL_law_682 : decode cL_law 682 = .ok (.aload_n 0, 1) := by decide +kernel
theorem dL_law_683 : decode cL_law 683 = .ok (.iload_n 3, 1) := by decide +kernel
theorem dL_law_684 : decode cL_law 684 = .ok (.iconst 1, 1) := by decide +kernel
theorem dL_law_685 : decode cL_law 685 = .ok (.iadd, 1) := by decide +kernel
theorem dL_law_686 : decode cL_law 686 = .ok (.iaload, 1) := by decide +kernel
theorem dL_law_687 : decode cL_law 687 = .ok (.aload_n 0, 1) := by decide +kernel
theorem dL_law_688 : decode cL_law 688 = .ok (.iload_n 3, 1) := by decide +kernel
theorem dL_law_689 : decode cL_law 689 = .ok (.iconst 2, 1) := by decide +kernel
theorem dL_law_690 : decode cL_law 690 = .ok (.iadd, 1) := by decide +kernel
theorem dL_law_691 : decode cL_law 691 = .ok (.iaload, 1) := by decide +kernel
theorem dL_law_692 : decode cL_law 692 = .ok (.invokevirtual 91, 3) := by decide +kernel
theorem dL_law_695 : decode cL_law 695 = .ok (.aload_n 2, 1) := by decide +kernel
theorem dL_law_696 : decode cL_law 696 = .ok (.aload_n 0, 1) := by decide +kernel
theorem dL_law_697 : decode cL_law 697 = .ok (.iload_n 3, 1) := by decide +kernel
theorem dL_law_698 : decode cL_law 698 = .ok (.iconst 1, 1) := by decide +kernel
theorem dL_law_699 : decode cL_law 699 = .ok (.iadd, 1) := by decide +kernel
theorem dL_law_700 : decode cL_law 700 = .ok (.iaload, 1) := by decide +kernel
theorem dL_law_701 : decode cL_law 701 = .ok (.aload_n 0, 1) := by decide +kernel
theorem dL_law_702 : decode cL_law 702 = .ok (.iload_n 3, 1) := by decide +kernel
theorem dL_law_703 : decode cL_law 703 = .ok (.iconst 2, 1) := by decide +kernel
theorem dL_law_704 : decode cL_law 704 = .ok (.iadd, 1) := by decide +kernel
theorem dL_law_705 : decode cL_law 705 = .ok (.iaload, 1) := by decide +kernel
theorem dL_law_706 : decode cL_law 706 = .ok (.invokevirtual 94, 3) := by decide +kernel
theorem dL_law_709 : decode cL_law 709 = .ok (.if_icmp .eq 52, 3) := by decide +kernel
theorem dL_law_712 : decode cL_law 712 = .ok (.iconst 0, 1) := by decide +kernel
theorem dL_law_713 : decode cL_law 713 = .ok (.ireturn, 1) := by decide +kernel
theorem dL_law_714 : decode cL_law 714 = .ok (.aload_n 1, 1) := by decide +kernel
theorem dL_law_715 : decode cL_law 715 = .ok (.aload_n 0, 1) := by decide +kernel
theorem dL_law_716 : decode cL_law 716 = .ok (.iload_n 3, 1) := by decide +kernel
theorem dL_law_717 : decode cL_law 717 = .ok (.iconst 1, 1) := by decide +kernel
theorem dL_law_718 : decode cL_law 718 = .ok (.iadd, 1) := by decide +kernel
theorem dL_law_719 : decode cL_law 719 = .ok (.iaload, 1) := by decide +kernel
theorem dL_law_720 : decode cL_law 720 = .ok (.invokevirtual 95, 3) := by decide +kernel
theorem dL_law_723 : decode cL_law 723 = .ok (.aload_n 2, 1) := by decide +kernel
theorem dL_law_724 : decode cL_law 724 = .ok (.aload_n 0, 1) := by decide +kernel
theorem dL_law_725 : decode cL_law 725 = .ok (.iload_n 3, 1) := by decide +kernel
theorem dL_law_726 : decode cL_law 726 = .ok (.iconst 1, 1) := by decide +kernel
theorem dL_law_727 : decode cL_law 727 = .ok (.iadd, 1) := by decide +kernel
theorem dL_law_728 : decode cL_law 728 = .ok (.iaload, 1) := by decide +kernel
theorem dL_law_729 : decode cL_law 729 = .ok (.invokevirtual 99, 3) := by decide +kernel
theorem dL_law_732 : decode cL_law 732 = .ok (.lcmp, 1) := by decide +kernel
theorem dL_law_733 : decode cL_law 733 = .ok (.ifCond .eq 28, 3) := by decide +kernel
theorem dL_law_736 : decode cL_law 736 = .ok (.iconst 0, 1) := by decide +kernel
theorem dL_law_737 : decode cL_law 737 = .ok (.ireturn, 1) := by decide +kernel
theorem dL_law_738 : decode cL_law 738 = .ok (.aload_n 1, 1) := by decide +kernel
theorem dL_law_739 : decode cL_law 739 = .ok (.aload_n 0, 1) := by decide +kernel
theorem dL_law_740 : decode cL_law 740 = .ok (.iload_n 3, 1) := by decide +kernel
theorem dL_law_741 : decode cL_law 741 = .ok (.iconst 1, 1) := by decide +kernel
theorem dL_law_742 : decode cL_law 742 = .ok (.iadd, 1) := by decide +kernel
theorem dL_law_743 : decode cL_law 743 = .ok (.iaload, 1) := by decide +kernel
theorem dL_law_744 : decode cL_law 744 = .ok (.invokevirtual 100, 3) := by decide +kernel
theorem dL_law_747 : decode cL_law 747 = .ok (.aload_n 2, 1) := by decide +kernel
theorem dL_law_748 : decode cL_law 748 = .ok (.aload_n 0, 1) := by decide +kernel
theorem dL_law_749 : decode cL_law 749 = .ok (.iload_n 3, 1) := by decide +kernel
theorem dL_law_750 : decode cL_law 750 = .ok (.iconst 1, 1) := by decide +kernel
theorem dL_law_751 : decode cL_law 751 = .ok (.iadd, 1) := by decide +kernel
theorem dL_law_752 : decode cL_law 752 = .ok (.iaload, 1) := by decide +kernel
theorem dL_law_753 : decode cL_law 753 = .ok (.invokevirtual 103, 3) := by decide +kernel
theorem dL_law_756 : decode cL_law 756 = .ok (.if_icmp .eq 5, 3) := by decide +kernel
theorem dL_law_759 : decode cL_law 759 = .ok (.iconst 0, 1) := by decide +kernel
theorem dL_law_760 : decode cL_law 760 = .ok (.ireturn, 1) := by decide +kernel
theorem dL_law_761 : decode cL_law 761 = .ok (.iinc 3 6, 3) := by decide +kernel
theorem dL_law_764 : decode cL_law 764 = .ok (.goto (-746), 3) := by decide +kernel
theorem dL_law_767 : decode cL_law 767 = .ok (.iconst 1, 1) := by decide +kernel
theorem dL_law_768 : decode cL_law 768 = .ok (.ireturn, 1) := by decide +kernel
end
section
/-! A world as a finite map: hp: the cell at an address; hu: one cell is new or changed, the others stay -/
def hp (ws : va_W) (a : Nat) (e : va_E) : Prop := ∃ k : Nat, ws[k]? = some (a, e)
def hu (ws : va_W) (a : Nat) (e : va_E) (ws' : va_W) : Prop := hp ws' a e ∧ ∀ (b : Nat) (e0 : va_E), b ≠ a → (hp ws' b e0 ↔ hp ws b e0)
theorem hp_fun {A : Nat → Prop} {ws : va_W} {a : Nat} {e e' : va_E} (hD : va_D A ws) (h : hp ws a e) (h' : hp ws a e') : e = e' := by
  obtain ⟨k, hk⟩ := h
  obtain ⟨k', hk'⟩ := h'
  have hkk := hD.1 k k' _ _ hk hk' rfl
  subst hkk
  rw [hk] at hk'
  cases hk'
  rfl
theorem hu_set {ws : va_W} {a k : Nat} {e0 e : va_E} (hk : ws[k]? = some (a, e0)) : hu ws a e (ws.set k (a, e)) := by
  have hl := (List.getElem?_eq_some_iff.mp hk).1
  refine ⟨⟨k, by rw [List.getElem?_set_self hl]⟩, fun b e1 hb => ⟨fun ⟨j, hj⟩ => ⟨j, ?_⟩, fun ⟨j, hj⟩ => ⟨j, ?_⟩⟩⟩
  · by_cases hjk : j = k
    · subst hjk
      rw [List.getElem?_set_self hl] at hj
      cases hj
      exact absurd rfl hb
    · rw [List.getElem?_set_ne (Ne.symm hjk)] at hj
      exact hj
  · by_cases hjk : j = k
    · subst hjk
      rw [hk] at hj
      cases hj
      exact absurd rfl hb
    · rw [List.getElem?_set_ne (Ne.symm hjk)]
      exact hj
theorem hu_push {ws : va_W} {a : Nat} {e : va_E} : hu ws a e (ws ++ [(a, e)]) := by
  refine ⟨⟨ws.length, by rw [List.getElem?_append_right (Nat.le_refl _), Nat.sub_self]; rfl⟩, fun b e1 hb => ⟨fun ⟨j, hj⟩ => ?_, fun ⟨j, hj⟩ => ⟨j, ?_⟩⟩⟩
  · by_cases hl : j < ws.length
    · rw [List.getElem?_append_left hl] at hj
      exact ⟨j, hj⟩
    · rw [List.getElem?_append_right (by omega)] at hj
      have h1 : j - ws.length < 1 := (List.getElem?_eq_some_iff.mp hj).1
      have h2 : j - ws.length = 0 := by omega
      rw [h2] at hj
      cases hj
      exact absurd rfl hb
  · have hl := (List.getElem?_eq_some_iff.mp hj).1
    rw [List.getElem?_append_left hl]
    exact hj
theorem hp_ne_of {A : Nat → Prop} {ws : va_W} {a b : Nat} {e e' : va_E} (hD : va_D A ws) (h : hp ws a e) (h' : hp ws b e') (hne : e ≠ e') : a ≠ b := fun q => by
  subst q
  exact hne (hp_fun hD h h')
/-! the class ids of arrays beside the tables of classes -/
abbrev Gt : Type := va_G × ClassId × ClassId × ClassId
def TYs (G : Gt) : List (ClassId × FieldType) := [(G.2.1, .int), (G.2.2.1, .long), (G.2.2.2, .object "SpanMover$Item")]
abbrev aI (G : Gt) (n : Nat) (f : Nat → Int32) : va_E := .inl (G.2.1, n, .inl f)
abbrev aJ (G : Gt) (n : Nat) (f : Nat → Int64) : va_E := .inl (G.2.2.1, n, .inr (.inl f))
abbrev aT (G : Gt) (n : Nat) (f : Nat → Option Nat) : va_E := .inl (G.2.2.2, n, .inr (.inr (.inr (.inr f))))
/-! what the tables say of the classes' kinship -/
def t_nm : Nat → String
  | 0 => RX1
  | 1 => RX2
  | _ => RX4
def t_tg : Nat → String
  | 0 => "SpanMover$NumberRow"
  | 1 => "SpanMover$ObjectRow"
  | 2 => "SpanMover$Thing"
  | 3 => "SpanMover$Row"
  | _ => "SpanMover$Item"
def t_is : Nat → Nat → Bool
  | 0, 0 => true
  | 1, 1 => true
  | 2, 2 => true
  | 0, 3 => true
  | 1, 3 => true
  | _, 4 => true
  | _, _ => false
def Tb (U : State) : Prop := (∀ i j : Nat, i < 3 → j < 5 → t_is i j = true → va_Nw (.castable (t_nm i) (t_tg j)) U) ∧ (∀ i j : Nat, i < 3 → j < 5 → t_is i j = false → va_Nc (t_nm i) (t_tg j) U) ∧ va_AO "SpanMover$Item" U ∧ va_Nw (.methodLinkNest RX2 44 yX5_toldAs "SpanMover") U
theorem Tb.warm {s U : State} (hW : s.WarmedH U.vm) (h : Tb s) : Tb U := by
  obtain ⟨h1, h2, h3, h4⟩ := h
  exact ⟨fun i j hi hj hij => va_Nw.warmC hW (h1 i j hi hj hij), fun i j hi hj hij => (h2 i j hi hj hij).moved hW.alike, h3.moved hW.alike, va_Nw.warmM hW h4⟩
theorem Tb.same {s U : State} (e : s.vm = U.vm) (h : Tb s) : Tb U := by
  obtain ⟨h1, h2, h3, h4⟩ := h
  exact ⟨fun i j hi hj hij => va_Nw.same rfl e (h1 i j hi hj hij), fun i j hi hj hij => by
    obtain ⟨c, t, q1, q2, q3⟩ := h2 i j hi hj hij
    exact ⟨c, t, by rw [← e]; exact q1, by rw [← e]; exact q2, by rw [← e]; exact q3⟩, h3.moved (by rw [e]; exact Vm.Alike.refl _), va_Nw.same rfl e h4⟩
/-- the world in a method's walk -/
def Wd (G : Gt) (A : Nat → Prop) (s : State) (ws : va_W) (H : Heap) (locs : List Loc) : Prop :=
  va_P G.1 vwCl ws H ∧ va_D A ws ∧ va_S A s.heap H locs ∧ va_K G.1 vwCl (TYs G) s ∧ (∀ q, s.heap.size ≤ q → A q) ∧ Tb s
/-- a method's start, over the world ws -/
def Pw (G : Gt) (av : List Value) (ws : va_W) (sz : Nat) : Array Value → State → Prop := va_Pc av (fun U => U.heap.size = sz ∧ va_P G.1 vwCl ws U.heap ∧ va_K G.1 vwCl (TYs G) U ∧ va_D (fun _ => True) ws ∧ Tb U)
/-- the world behind a method that writes -/
def Bw (G : Gt) (ws : va_W) (sz : Nat) (u : va_W) (t : State) : Prop := va_P G.1 vwCl u t.heap ∧ va_D (va_A ws sz) u
theorem Pw.blind {G : Gt} {av : List Value} {ws : va_W} {sz : Nat} : FrameBlind (Pw G av ws sz) := fun a U g mk q => by
  obtain ⟨q0, q1, qP, qK, qD, qT⟩ := q
  exact ⟨q0, q1, qP, va_K.moved (u := U) (U := U.calling g mk a) (Vm.Alike.refl U.vm) qK, qD, Tb.same (U := U.calling g mk a) rfl qT⟩
theorem Wd.enter {G : Gt} {s : State} {ws : va_W} (hP : va_P G.1 vwCl ws s.heap) (hK : va_K G.1 vwCl (TYs G) s) (hD : va_D (fun _ => True) ws) (hT : Tb s) : Wd G (va_A ws s.heap.size) s ws s.heap [] :=
  ⟨hP, hD.self, va_S.rf, hK, fun _ h => Or.inr h, hT⟩
theorem Wd.preS {G : Gt} {A : Nat → Prop} {s : State} {ws : va_W} {H : Heap} {locs : List Loc} (w : Wd G A s ws H locs) (av : List Value) : PreS s H (Pw G av ws H.size) av :=
  ⟨Pw.blind, fun U hU hW => ⟨rfl, by rw [hU], by rw [hU]; exact w.1, va_K.moved hW.alike w.2.2.2.1, w.2.1.weaken (fun _ _ _ _ => trivial), w.2.2.2.2.2.warm hW⟩⟩
theorem Wd.recv {G : Gt} {A : Nat → Prop} {s : State} {ws : va_W} {H : Heap} {locs : List Loc} (w : Wd G A s ws H locs) {a ci : Nat} {fs : List Value} {q : vw_C} (he : hp ws a (.inr (ci, fs))) (hc : vwCl[ci]? = some q) : ∃ cell : Cell, H[a]? = some cell ∧ cell.vm.isStatics = false ∧ s.vm.findClass q.1 = some cell.cls := by
  obtain ⟨k, hk⟩ := he
  exact va_recv w.2.2.2.1 w.1 hc hk
theorem Wd.preV {G : Gt} {A : Nat → Prop} {s : State} {ws : va_W} {H : Heap} {locs : List Loc} (w : Wd G A s ws H locs) {b ci : Nat} {fs : List Value} {q : vw_C} (he : hp ws b (.inr (ci, fs))) (hc : vwCl[ci]? = some q) (As : List Value) : PreV s H q.1 b (Pw G (.ref b :: As) ws H.size) As :=
  ⟨Pw.blind, w.recv he hc, (w.preS (.ref b :: As)).2⟩
/-- behind a call that wrote: the caller's world is the callee's -/
theorem Wd.back {G : Gt} {A : Nat → Prop} {s t : State} {ws u : va_W} {H H1 : Heap} {locs locs1 : List Loc} (w : Wd G A s ws H locs) (hB : Bw G ws H.size u t) (ht : t.heap = H1) (hS : va_S A s.heap H1 locs1) : Wd G A s u H1 locs1 := by
  obtain ⟨hP, hD, hS0, hK, hA, hT⟩ := w
  refine ⟨by rw [← ht]; exact hB.1, hB.2.weaken (fun k q hk hq => ?_), hS, hK, hA, hT⟩
  rcases hq with ⟨j, e, hj⟩ | hq
  · exact hD.2 j (q.1, e) hj
  · exact hA _ (Nat.le_trans hS0.1 hq)
theorem Wd.sub {G : Gt} {A : Nat → Prop} {s : State} {ws : va_W} {H : Heap} {locs : List Loc} (w : Wd G A s ws H locs) : ∀ q, va_A ws H.size q → A q := by
  obtain ⟨hP, hD, hS0, hK, hA, hT⟩ := w
  intro q h
  rcases h with ⟨k, e, h⟩ | h
  · exact hD.2 k _ h
  · exact hA q (Nat.le_trans hS0.1 h)
section LIBR
variable {p : Program} {l : Launch} {e : Env} {R : Room} {s : State} {m : MethodId} {args : Array Value} {below : List Frame} {meth : Method} {c : Code} {H : Heap} {locs : List Loc} {cells slots : Nat} {Q : State → Prop}
variable {cc : ByteArray} {nL pc : Nat} {ls : Array Slot} {rest : List Value} {Ts : List Cond} {own : String} {G : Gt} {A : Nat → Prop} {a : Nat} {ws : va_W}
theorem r_get (S : CallFix p m c cc nL s args Ts own) (w : Wd G A s ws H locs) {ci : Nat} {fs : List Value} (he : hp ws a (.inr (ci, fs))) {C : String} {T : u_T} {N : Nat} (hc : vwCl[ci]? = some (C, T, N)) (hin : ∀ w ∈ u_ws C T N, w ∈ Ts) (k : Nat) (hk : k < N) {index : Nat} {ref : String} (hlink : Cond.fieldLink own index ref (T k).2.1 (T k).2.2.1 ∈ Ts) (hsame : ref = (T k).1 ∨ Cond.sameField ref (T k).1 (T k).2.1 (T k).2.2.1 ∈ Ts) {v : Value} (hv : fs[k]? = some v) (hdg : decode cc pc = .ok (.getfield index, 3))
    (kk : W p l e R s m args below meth c H locs cells slots Q (F0 m (pc + 3) ls (v :: rest))) : W p l e R s m args below meth c H locs cells slots Q (F0 m pc ls (.ref a :: rest)) := by
  obtain ⟨hx, hb, hml, hown, hts⟩ := S
  obtain ⟨q0, hq⟩ := he
  refine va_get (D := G.1) hx hb hts hin hown w.2.2.2.1 w.1 q0 hq hc k hk (hts _ hlink) (fun x h => ?_) hv hdg kk
  rcases hsame with h1 | h1
  · rw [h1]; exact h
  · exact u_same (hts _ h1) x h
theorem r_put (S : CallFix p m c cc nL s args Ts own) (w : Wd G A s ws H locs) {ci : Nat} {fs : List Value} (he : hp ws a (.inr (ci, fs))) {C : String} {T : u_T} {N : Nat} (hc : vwCl[ci]? = some (C, T, N)) (hin : ∀ w ∈ u_ws C T N, w ∈ Ts) {ty0 : Nat → FieldType} (hty : ∀ k, k < N → parseFieldDescriptor (T k).2.2.1 = some (ty0 k)) (hnm : ∀ a, a < N → ∀ b, b < N → a ≠ b → (T a).2.1 ≠ (T b).2.1) (k : Nat) (hk : k < N) {index : Nat} {ref : String} (hlink : Cond.fieldLink own index ref (T k).2.1 (T k).2.2.1 ∈ Ts) (hsame : ref = (T k).1 ∨ Cond.sameField ref (T k).1 (T k).2.1 (T k).2.2.1 ∈ Ts) (hfin : (T k).2.2.2 = false) {v : Value} (hn : narrow (ty0 k) v = v) (hfit : fits (ty0 k) v = true) (hl : k < fs.length) (hdg : decode cc pc = .ok (.putfield index, 3))
    (kk : ∀ (ws' : va_W) (H1 : Heap) (locs1 : List Loc), hu ws a (.inr (ci, fs.set k v)) ws' → Wd G A s ws' H1 locs1 → W p l e R s m args below meth c H1 locs1 cells slots Q (F0 m (pc + 3) ls rest)) : W p l e R s m args below meth c H locs cells slots Q (F0 m pc ls (v :: .ref a :: rest)) := by
  obtain ⟨hx, hb, hml, hown, hts⟩ := S
  obtain ⟨hP, hD, hS, hK, hA, hT⟩ := w
  obtain ⟨q0, hq⟩ := he
  refine va_put (D := G.1) hx hb hts hin ty0 hty hnm hown hK hP hD hS q0 hq hc k hk (hts _ hlink) (fun x h => ?_) hfin (hty k hk) hn hfit hl hdg (fun H1 locs1 hP1 hD1 hS1 => kk _ H1 locs1 (hu_set hq) ⟨hP1, hD1, hS1, hK, hA, hT⟩)
  rcases hsame with h1 | h1
  · rw [h1]; exact h
  · exact u_same (hts _ h1) x h
theorem r_putF (S : CallFix p m c cc nL s args Ts own) (w : Wd G A s ws H locs) (hinit : meth.name = "<init>") {ci : Nat} {fs : List Value} (he : hp ws a (.inr (ci, fs))) {C : String} {T : u_T} {N : Nat} (hc : vwCl[ci]? = some (C, T, N)) (hin : ∀ w ∈ u_ws C T N, w ∈ Ts) {ty0 : Nat → FieldType} (hty : ∀ k, k < N → parseFieldDescriptor (T k).2.2.1 = some (ty0 k)) (hnm : ∀ a, a < N → ∀ b, b < N → a ≠ b → (T a).2.1 ≠ (T b).2.1) (k : Nat) (hk : k < N) {index : Nat} (hlink : Cond.fieldLink own index (T k).1 (T k).2.1 (T k).2.2.1 ∈ Ts) (hfin : (T k).2.2.2 = true) (hcl : (T k).1 = own) {v : Value} (hn : narrow (ty0 k) v = v) (hfit : fits (ty0 k) v = true) (hl : k < fs.length) (hdg : decode cc pc = .ok (.putfield index, 3))
    (kk : ∀ (ws' : va_W) (H1 : Heap) (locs1 : List Loc), hu ws a (.inr (ci, fs.set k v)) ws' → Wd G A s ws' H1 locs1 → W p l e R s m args below meth c H1 locs1 cells slots Q (F0 m (pc + 3) ls rest)) : W p l e R s m args below meth c H locs cells slots Q (F0 m pc ls (v :: .ref a :: rest)) := by
  obtain ⟨hx, hb, hml, hown, hts⟩ := S
  obtain ⟨hP, hD, hS, hK, hA, hT⟩ := w
  obtain ⟨q0, hq⟩ := he
  exact va_putF (D := G.1) hx hb hts hin ty0 hty hnm hown hK hP hD hS q0 hq hc k hk (hts _ hlink) (fun x h => h) hfin hinit hcl (hty k hk) hn hfit hl hdg (fun H1 locs1 hP1 hD1 hS1 => kk _ H1 locs1 (hu_set hq) ⟨hP1, hD1, hS1, hK, hA, hT⟩)
theorem r_iald (S : CallFix p m c cc nL s args Ts own) (w : Wd G A s ws H locs) {n : Nat} {f : Nat → Int32} (ha : hp ws a (aI G n f)) {i : Int32} (hin : vp_in i n) (hdg : decode cc pc = .ok (.iaload, 1))
    (kk : W p l e R s m args below meth c H locs cells slots Q (F0 m (pc + 1) ls (.int (f i.toNatClampNeg) :: rest))) : W p l e R s m args below meth c H locs cells slots Q (F0 m pc ls (.int i :: .ref a :: rest)) := by
  obtain ⟨q0, hq⟩ := ha
  exact va_iald S.1 S.2.1 w.2.2.2.1 w.1 q0 0 hq rfl hin hdg kk
theorem r_lald (S : CallFix p m c cc nL s args Ts own) (w : Wd G A s ws H locs) {n : Nat} {f : Nat → Int64} (ha : hp ws a (aJ G n f)) {i : Int32} (hin : vp_in i n) (hdg : decode cc pc = .ok (.laload, 1))
    (kk : W p l e R s m args below meth c H locs cells slots Q (F0 m (pc + 1) ls (.long (f i.toNatClampNeg) :: rest))) : W p l e R s m args below meth c H locs cells slots Q (F0 m pc ls (.int i :: .ref a :: rest)) := by
  obtain ⟨q0, hq⟩ := ha
  exact va_lald S.1 S.2.1 w.2.2.2.1 w.1 q0 1 hq rfl hin hdg kk
theorem r_aald (S : CallFix p m c cc nL s args Ts own) (w : Wd G A s ws H locs) {n : Nat} {f : Nat → Option Nat} (ha : hp ws a (aT G n f)) {i : Int32} (hin : vp_in i n) (hdg : decode cc pc = .ok (.aaload, 1))
    (kk : W p l e R s m args below meth c H locs cells slots Q (F0 m (pc + 1) ls (va_rf (f i.toNatClampNeg) :: rest))) : W p l e R s m args below meth c H locs cells slots Q (F0 m pc ls (.int i :: .ref a :: rest)) := by
  obtain ⟨q0, hq⟩ := ha
  exact va_aldq S.1 S.2.1 w.2.2.2.1 w.1 q0 2 hq rfl hin hdg kk
theorem r_ilen (S : CallFix p m c cc nL s args Ts own) (w : Wd G A s ws H locs) {n : Nat} {f : Nat → Int32} (ha : hp ws a (aI G n f)) (hdg : decode cc pc = .ok (.arraylength, 1))
    (kk : W p l e R s m args below meth c H locs cells slots Q (F0 m (pc + 1) ls (.int (nI n) :: rest))) : W p l e R s m args below meth c H locs cells slots Q (F0 m pc ls (.ref a :: rest)) := by
  obtain ⟨q0, hq⟩ := ha
  exact va_alen S.1 S.2.1 w.2.2.2.1 w.1 q0 0 hq rfl rfl hdg kk
theorem r_llen (S : CallFix p m c cc nL s args Ts own) (w : Wd G A s ws H locs) {n : Nat} {f : Nat → Int64} (ha : hp ws a (aJ G n f)) (hdg : decode cc pc = .ok (.arraylength, 1))
    (kk : W p l e R s m args below meth c H locs cells slots Q (F0 m (pc + 1) ls (.int (nI n) :: rest))) : W p l e R s m args below meth c H locs cells slots Q (F0 m pc ls (.ref a :: rest)) := by
  obtain ⟨q0, hq⟩ := ha
  exact va_alen S.1 S.2.1 w.2.2.2.1 w.1 q0 1 hq rfl rfl hdg kk
theorem r_alen (S : CallFix p m c cc nL s args Ts own) (w : Wd G A s ws H locs) {n : Nat} {f : Nat → Option Nat} (ha : hp ws a (aT G n f)) (hdg : decode cc pc = .ok (.arraylength, 1))
    (kk : W p l e R s m args below meth c H locs cells slots Q (F0 m (pc + 1) ls (.int (nI n) :: rest))) : W p l e R s m args below meth c H locs cells slots Q (F0 m pc ls (.ref a :: rest)) := by
  obtain ⟨q0, hq⟩ := ha
  exact va_alen S.1 S.2.1 w.2.2.2.1 w.1 q0 2 hq rfl rfl hdg kk
theorem r_iast (S : CallFix p m c cc nL s args Ts own) (w : Wd G A s ws H locs) {n : Nat} {f : Nat → Int32} (ha : hp ws a (aI G n f)) {i x : Int32} (hin : vp_in i n) (hdg : decode cc pc = .ok (.iastore, 1))
    (kk : ∀ (ws' : va_W) (H1 : Heap) (locs1 : List Loc), hu ws a (aI G n (upd f i.toNatClampNeg x)) ws' → Wd G A s ws' H1 locs1 → W p l e R s m args below meth c H1 locs1 cells slots Q (F0 m (pc + 1) ls rest)) : W p l e R s m args below meth c H locs cells slots Q (F0 m pc ls (.int x :: .int i :: .ref a :: rest)) := by
  obtain ⟨q0, hq⟩ := ha
  obtain ⟨hP, hD, hS, hK, hA, hT⟩ := w
  exact va_iast S.1 S.2.1 hK hP hD hS q0 0 hq rfl hin hdg (fun H1 locs1 hP1 hD1 hS1 => kk _ H1 locs1 (hu_set hq) ⟨hP1, hD1, hS1, hK, hA, hT⟩)
theorem r_last (S : CallFix p m c cc nL s args Ts own) (w : Wd G A s ws H locs) {n : Nat} {f : Nat → Int64} (ha : hp ws a (aJ G n f)) {i : Int32} {x : Int64} (hin : vp_in i n) (hdg : decode cc pc = .ok (.lastore, 1))
    (kk : ∀ (ws' : va_W) (H1 : Heap) (locs1 : List Loc), hu ws a (aJ G n (vp_updL f i.toNatClampNeg x)) ws' → Wd G A s ws' H1 locs1 → W p l e R s m args below meth c H1 locs1 cells slots Q (F0 m (pc + 1) ls rest)) : W p l e R s m args below meth c H locs cells slots Q (F0 m pc ls (.long x :: .int i :: .ref a :: rest)) := by
  obtain ⟨q0, hq⟩ := ha
  obtain ⟨hP, hD, hS, hK, hA, hT⟩ := w
  exact va_last S.1 S.2.1 hK hP hD hS q0 1 hq rfl hin hdg (fun H1 locs1 hP1 hD1 hS1 => kk _ H1 locs1 (hu_set hq) ⟨hP1, hD1, hS1, hK, hA, hT⟩)
/-- an object of one of the three kinds is an Item -/
theorem Wd.any (w : Wd G A s ws H locs) {v ci : Nat} {fs : List Value} (hv : hp ws v (.inr (ci, fs))) (hi : ci < 3) : va_Any "SpanMover$Item" s H v := by
  obtain ⟨k, hk⟩ := hv
  obtain ⟨hP, hD, hS, hK, hA, hT⟩ := w
  have h4 := hT.1 ci 4 hi (by decide)
  rcases (show ci = 0 ∨ ci = 1 ∨ ci = 2 by omega) with rfl | rfl | rfl
  · exact va_rAny hK hP hk (r := (RX1, TX1, 5)) rfl (fun comp c0 h1 h2 => vb_asgC (h4 rfl) comp c0 h1 h2)
  · exact va_rAny hK hP hk (r := (RX2, TX2, 3)) rfl (fun comp c0 h1 h2 => vb_asgC (h4 rfl) comp c0 h1 h2)
  · exact va_rAny hK hP hk (r := (RX4, TX4, 2)) rfl (fun comp c0 h1 h2 => vb_asgC (h4 rfl) comp c0 h1 h2)
theorem r_aast (S : CallFix p m c cc nL s args Ts own) (w : Wd G A s ws H locs) {n : Nat} {f : Nat → Option Nat} (ha : hp ws a (aT G n f)) {i : Int32} {r : Option Nat} (hr : ∀ v, r = some v → va_Any "SpanMover$Item" s H v) (hin : vp_in i n) (hdg : decode cc pc = .ok (.aastore, 1))
    (kk : ∀ (ws' : va_W) (H1 : Heap) (locs1 : List Loc), hu ws a (aT G n (va_up f i.toNatClampNeg r)) ws' → Wd G A s ws' H1 locs1 → W p l e R s m args below meth c H1 locs1 cells slots Q (F0 m (pc + 1) ls rest)) : W p l e R s m args below meth c H locs cells slots Q (F0 m pc ls (va_rf r :: .int i :: .ref a :: rest)) := by
  obtain ⟨q0, hq⟩ := ha
  obtain ⟨hP, hD, hS, hK, hA, hT⟩ := w
  cases r with
  | none => exact va_astqN S.1 S.2.1 hK hP hD hS q0 2 hq rfl hin hdg (fun H1 locs1 hP1 hD1 hS1 => kk _ H1 locs1 (hu_set hq) ⟨hP1, hD1, hS1, hK, hA, hT⟩)
  | some v => exact va_astqM S.1 S.2.1 hK hP hD hS q0 2 hq rfl (hr v rfl) hin hdg (fun H1 locs1 hP1 hD1 hS1 => kk _ H1 locs1 (hu_set hq) ⟨hP1, hD1, hS1, hK, hA, hT⟩)
/-- instanceof, of one of the three kinds -/
theorem r_inst (S : CallFix p m c cc nL s args Ts own) (w : Wd G A s ws H locs) {ci : Nat} {fs : List Value} (he : hp ws a (.inr (ci, fs))) (hi : ci < 3) (j : Nat) (hj : j < 5) {index : Nat} (hlink : Cond.classLink own index (t_tg j) ∈ Ts) {v : Int32} (hv : v = if t_is ci j then 1 else 0) (hdg : decode cc pc = .ok (.instanceof index, 3))
    (kk : W p l e R s m args below meth c H locs cells slots Q (F0 m (pc + 3) ls (.int v :: rest))) : W p l e R s m args below meth c H locs cells slots Q (F0 m pc ls (.ref a :: rest)) := by
  obtain ⟨hx, hb, hml, hown, hts⟩ := S
  have hr : ∃ cell : Cell, H[a]? = some cell ∧ cell.vm.isStatics = false ∧ s.vm.findClass (t_nm ci) = some cell.cls := by
    rcases (show ci = 0 ∨ ci = 1 ∨ ci = 2 by omega) with rfl | rfl | rfl
    · exact w.recv (q := (RX1, TX1, 5)) he rfl
    · exact w.recv (q := (RX2, TX2, 3)) he rfl
    · exact w.recv (q := (RX4, TX4, 2)) he rfl
  subst hv
  cases ht : t_is ci j with
  | true => exact va_instY hx hb hown (hts _ hlink) (w.2.2.2.2.2.1 ci j hi hj ht) hr hdg (by rw [ht] at kk; exact kk)
  | false => exact va_instNo hx hb hown (hts _ hlink) (w.2.2.2.2.2.2.1 ci j hi hj ht) hr hdg (by rw [ht] at kk; exact kk)
theorem r_cast (S : CallFix p m c cc nL s args Ts own) (w : Wd G A s ws H locs) {ci : Nat} {fs : List Value} (he : hp ws a (.inr (ci, fs))) (hi : ci < 3) (j : Nat) (hj : j < 5) (ht : t_is ci j = true) {index : Nat} (hlink : Cond.classLink own index (t_tg j) ∈ Ts) (hdg : decode cc pc = .ok (.checkcast index, 3))
    (kk : W p l e R s m args below meth c H locs cells slots Q (F0 m (pc + 3) ls (.ref a :: rest))) : W p l e R s m args below meth c H locs cells slots Q (F0 m pc ls (.ref a :: rest)) := by
  obtain ⟨hx, hb, hml, hown, hts⟩ := S
  have hr : ∃ cell : Cell, H[a]? = some cell ∧ cell.vm.isStatics = false ∧ s.vm.findClass (t_nm ci) = some cell.cls := by
    rcases (show ci = 0 ∨ ci = 1 ∨ ci = 2 by omega) with rfl | rfl | rfl
    · exact w.recv (q := (RX1, TX1, 5)) he rfl
    · exact w.recv (q := (RX2, TX2, 3)) he rfl
    · exact w.recv (q := (RX4, TX4, 2)) he rfl
  exact va_castY hx hb hown (hts _ hlink) (w.2.2.2.2.2.1 ci j hi hj ht) hr hdg kk
end LIBR
end
section
section LIBC
variable {p : Program} {l : Launch} {e : Env} {R : Room} {s : State} {m : MethodId} {args : Array Value} {below : List Frame} {meth : Method} {c : Code} {H : Heap} {locs : List Loc} {cells slots : Nat} {Q : State → Prop}
variable {cc : ByteArray} {nL pc : Nat} {ls : Array Slot} {rest st0 : List Value} {Ts : List Cond} {own : String} {G : Gt} {A : Nat → Prop} {ws : va_W}
variable {y x : MethodName} {bytes : ByteArray} {maxL n index mc ms b ci : Nat} {ret : Option FieldType} {wsy : List Cond} {rm : Room} {As : List Value} {fs : List Value} {q : vw_C} {owner host : String}
/-- a contract's start -/
theorem Met_pw {wsy' : List Cond} {av : List Value} {sz : Nat} {Qc : Array Value → State → Outcome → State → Prop} {free : Addr → Prop} (hy : plainName y.cls = true) (hw : wsy = Cond.code y cc maxL ret :: wsy') (hlen : (lg_sl av).length ≤ maxL)
    (body : ∀ (p : Program) (e : Env) (s : State) (m : MethodId) (below : List Frame) (meth : Method) (c : Code) (ls : Array Slot), s.heap.size = sz → CallFix p m c cc maxL s av.toArray wsy y.cls → meth.sig.returnType = ret → meth.locks = false → meth.name = y.name → Wd G (va_A ws s.heap.size) s ws s.heap [] → lv_has ls maxL (lv_args 0 av) →
      W p l e rm s m av.toArray below meth c s.heap [] 0 0 (MQ below Qc av.toArray s mc ms free) (F0 m 0 ls [])) : Met l y wsy rm (Pw G av ws sz) Qc mc ms free := by
  refine Met.ofW (cc := cc) (maxL := maxL) (ret := ret) hy hw ?_
  intro p e s m args below meth c s₁ B hml hv
  obtain ⟨rfl, hsz, hP, hK, hD, hT⟩ := hv
  have hl := lv_entry av (n := maxL) hlen
  rw [lg_entry_eq]
  exact body p e s m below meth c _ hsz ⟨B.exec, B.bytes, hml, findClass_of_methodNamed B.named, atoms_spec (ws := wsy) B.pre⟩ B.returns B.notSynchronized (name_of_methodNamed B.named B.method).1 (Wd.enter hP hK hD hT) hl
/-! calls of methods that write nothing -/
theorem k_vi {post : Int32 → Prop} (S : CallFix p m c cc nL s args Ts own) (w : Wd G A s ws H locs) (hM : Met l y wsy rm (Pw G (.ref b :: As) ws H.size) (vp_Si post) 0 0 (fun _ => False)) (he : hp ws b (.inr (ci, fs))) (hc : vwCl[ci]? = some q) (cw : CallW R s args own q.1 index y bytes maxL ret wsy rm 0 0 n) (hn : As.length = n) (hsz : ls.size = nL) (hst : st0 = As.reverse ++ .ref b :: rest) (hro : (rest.map fun v => v.category).sum ≤ 8) (hdg : decode cc pc = .ok (.invokevirtual index, 3)) (hf : cells ≤ R.cells ∧ slots ≤ R.slots)
    (kk : ∀ r : Int32, post r → W p l e R s m args below meth c H locs cells slots Q (F0 m (pc + 3) ls (.int r :: rest))) : W p l e R s m args below meth c H locs cells slots Q (F0 m pc ls st0) :=
  vp_callSi (W.runV S hM cw (w.preV he hc As) rfl hn hsz hst (lv_room hro) hdg hf) kk
theorem k_vl {post : Int64 → Prop} (S : CallFix p m c cc nL s args Ts own) (w : Wd G A s ws H locs) (hM : Met l y wsy rm (Pw G (.ref b :: As) ws H.size) (vp_Sl post) 0 0 (fun _ => False)) (he : hp ws b (.inr (ci, fs))) (hc : vwCl[ci]? = some q) (cw : CallW R s args own q.1 index y bytes maxL ret wsy rm 0 0 n) (hn : As.length = n) (hsz : ls.size = nL) (hst : st0 = As.reverse ++ .ref b :: rest) (hro : (rest.map fun v => v.category).sum ≤ 8) (hdg : decode cc pc = .ok (.invokevirtual index, 3)) (hf : cells ≤ R.cells ∧ slots ≤ R.slots)
    (kk : ∀ r : Int64, post r → W p l e R s m args below meth c H locs cells slots Q (F0 m (pc + 3) ls (.long r :: rest))) : W p l e R s m args below meth c H locs cells slots Q (F0 m pc ls st0) :=
  vp_callSl (W.runV S hM cw (w.preV he hc As) rfl hn hsz hst (lv_room hro) hdg hf) kk
theorem k_vq {post : Option Nat → Prop} (S : CallFix p m c cc nL s args Ts own) (w : Wd G A s ws H locs) (hM : Met l y wsy rm (Pw G (.ref b :: As) ws H.size) (va_Sq post) 0 0 (fun _ => False)) (he : hp ws b (.inr (ci, fs))) (hc : vwCl[ci]? = some q) (cw : CallW R s args own q.1 index y bytes maxL ret wsy rm 0 0 n) (hn : As.length = n) (hsz : ls.size = nL) (hst : st0 = As.reverse ++ .ref b :: rest) (hro : (rest.map fun v => v.category).sum ≤ 8) (hdg : decode cc pc = .ok (.invokevirtual index, 3)) (hf : cells ≤ R.cells ∧ slots ≤ R.slots)
    (kk : ∀ r : Option Nat, post r → W p l e R s m args below meth c H locs cells slots Q (F0 m (pc + 3) ls (va_rf r :: rest))) : W p l e R s m args below meth c H locs cells slots Q (F0 m pc ls st0) :=
  va_csq (W.runV S hM cw (w.preV he hc As) rfl hn hsz hst (lv_room hro) hdg hf) kk
theorem k_si {post : Int32 → Prop} (S : CallFix p m c cc nL s args Ts own) (w : Wd G A s ws H locs) (hM : Met l y wsy rm (Pw G As ws H.size) (vp_Si post) 0 0 (fun _ => False)) (cw : CallB R s args own index y bytes maxL ret wsy rm 0 0 n ∧ (Cond.static y).before args s = true) (hn : As.length = n) (hsz : ls.size = nL) (hst : st0 = As.reverse ++ rest) (hro : (rest.map fun v => v.category).sum ≤ 8) (hdg : decode cc pc = .ok (.invokestatic index, 3)) (hf : cells ≤ R.cells ∧ slots ≤ R.slots)
    (kk : ∀ r : Int32, post r → W p l e R s m args below meth c H locs cells slots Q (F0 m (pc + 3) ls (.int r :: rest))) : W p l e R s m args below meth c H locs cells slots Q (F0 m pc ls st0) :=
  vp_callSi (W.runS S hM cw (w.preS As) rfl hn hsz hst (lv_room hro) hdg hf) kk
theorem k_sl {post : Int64 → Prop} (S : CallFix p m c cc nL s args Ts own) (w : Wd G A s ws H locs) (hM : Met l y wsy rm (Pw G As ws H.size) (vp_Sl post) 0 0 (fun _ => False)) (cw : CallB R s args own index y bytes maxL ret wsy rm 0 0 n ∧ (Cond.static y).before args s = true) (hn : As.length = n) (hsz : ls.size = nL) (hst : st0 = As.reverse ++ rest) (hro : (rest.map fun v => v.category).sum ≤ 8) (hdg : decode cc pc = .ok (.invokestatic index, 3)) (hf : cells ≤ R.cells ∧ slots ≤ R.slots)
    (kk : ∀ r : Int64, post r → W p l e R s m args below meth c H locs cells slots Q (F0 m (pc + 3) ls (.long r :: rest))) : W p l e R s m args below meth c H locs cells slots Q (F0 m pc ls st0) :=
  vp_callSl (W.runS S hM cw (w.preS As) rfl hn hsz hst (lv_room hro) hdg hf) kk
theorem k_snl {post : Int64 → Prop} (S : CallFix p m c cc nL s args Ts own) (w : Wd G A s ws H locs) (hM : Met l y wsy rm (Pw G As ws H.size) (vp_Sl post) 0 0 (fun _ => False)) (cw : va_CN R s args own index y host bytes maxL ret wsy rm 0 0 n ∧ (Cond.static y).before args s = true ∧ True) (hn : As.length = n) (hsz : ls.size = nL) (hst : st0 = As.reverse ++ rest) (hro : (rest.map fun v => v.category).sum ≤ 8) (hdg : decode cc pc = .ok (.invokestatic index, 3)) (hf : cells ≤ R.cells ∧ slots ≤ R.slots)
    (kk : ∀ r : Int64, post r → W p l e R s m args below meth c H locs cells slots Q (F0 m (pc + 3) ls (.long r :: rest))) : W p l e R s m args below meth c H locs cells slots Q (F0 m pc ls st0) :=
  vp_callSl (va_runSN S hM cw (w.preS As) rfl hn hsz hst (lv_room hro) hdg hf).run kk
theorem k_ui {post : Int32 → Prop} (S : CallFix p m c cc nL s args Ts own) (w : Wd G A s ws H locs) (hM : Met l y wsy rm (Pw G (.ref b :: As) ws H.size) (vp_Si post) 0 0 (fun _ => False)) (he : hp ws b (.inr (ci, fs))) (hc : vwCl[ci]? = some q) (cw : va_CU R s args own q.1 owner index x y bytes maxL ret wsy rm 0 0 n) (hn : As.length = n) (hsz : ls.size = nL) (hst : st0 = As.reverse ++ .ref b :: rest) (hro : (rest.map fun v => v.category).sum ≤ 8) (hdg : decode cc pc = .ok (.invokevirtual index, 3)) (hf : cells ≤ R.cells ∧ slots ≤ R.slots)
    (kk : ∀ r : Int32, post r → W p l e R s m args below meth c H locs cells slots Q (F0 m (pc + 3) ls (.int r :: rest))) : W p l e R s m args below meth c H locs cells slots Q (F0 m pc ls st0) :=
  vp_callSi (va_runU S hM cw (w.preV he hc As) rfl hn hsz hst (lv_room hro) hdg hf).run kk
/-! calls of methods that write -/
theorem kw_vi {post : Int32 → va_W → Prop} (S : CallFix p m c cc nL s args Ts own) (w : Wd G A s ws H locs) (hM : Met l y wsy rm (Pw G (.ref b :: As) ws H.size) (va_Qi post (Bw G ws H.size) (va_A ws H.size)) mc ms (va_A ws H.size)) (he : hp ws b (.inr (ci, fs))) (hc : vwCl[ci]? = some q) (cw : CallW R s args own q.1 index y bytes maxL ret wsy rm mc ms n) (hn : As.length = n) (hsz : ls.size = nL) (hst : st0 = As.reverse ++ .ref b :: rest) (hro : (rest.map fun v => v.category).sum ≤ 8) (hdg : decode cc pc = .ok (.invokevirtual index, 3)) (hf : cells + mc ≤ R.cells ∧ slots + ms ≤ R.slots)
    (kk : ∀ (r : Int32) (u : va_W) (H1 : Heap) (locs1 : List Loc), post r u → Wd G A s u H1 locs1 → W p l e R s m args below meth c H1 locs1 (cells + mc) (slots + ms) Q (F0 m (pc + 3) ls (.int r :: rest))) : W p l e R s m args below meth c H locs cells slots Q (F0 m pc ls st0) :=
  va_calli (va_runV S hM cw (w.preV he hc As) rfl hn hsz hst (lv_room hro) hdg hf) w.2.2.1 (fun q _ h => w.sub q h) w.sub (fun r u t H1 locs1 ht hvm hp hB hz hk hS => kk r u H1 locs1 hp (w.back hB ht hS))
theorem kw_vl {post : Int64 → va_W → Prop} (S : CallFix p m c cc nL s args Ts own) (w : Wd G A s ws H locs) (hM : Met l y wsy rm (Pw G (.ref b :: As) ws H.size) (va_Ql post (Bw G ws H.size) (va_A ws H.size)) mc ms (va_A ws H.size)) (he : hp ws b (.inr (ci, fs))) (hc : vwCl[ci]? = some q) (cw : CallW R s args own q.1 index y bytes maxL ret wsy rm mc ms n) (hn : As.length = n) (hsz : ls.size = nL) (hst : st0 = As.reverse ++ .ref b :: rest) (hro : (rest.map fun v => v.category).sum ≤ 8) (hdg : decode cc pc = .ok (.invokevirtual index, 3)) (hf : cells + mc ≤ R.cells ∧ slots + ms ≤ R.slots)
    (kk : ∀ (r : Int64) (u : va_W) (H1 : Heap) (locs1 : List Loc), post r u → Wd G A s u H1 locs1 → W p l e R s m args below meth c H1 locs1 (cells + mc) (slots + ms) Q (F0 m (pc + 3) ls (.long r :: rest))) : W p l e R s m args below meth c H locs cells slots Q (F0 m pc ls st0) :=
  va_calll (va_runV S hM cw (w.preV he hc As) rfl hn hsz hst (lv_room hro) hdg hf) w.2.2.1 (fun q _ h => w.sub q h) w.sub (fun r u t H1 locs1 ht hvm hp hB hz hk hS => kk r u H1 locs1 hp (w.back hB ht hS))
theorem kw_vv {post : va_W → Prop} (S : CallFix p m c cc nL s args Ts own) (w : Wd G A s ws H locs) (hM : Met l y wsy rm (Pw G (.ref b :: As) ws H.size) (va_Qv post (Bw G ws H.size) (va_A ws H.size)) mc ms (va_A ws H.size)) (he : hp ws b (.inr (ci, fs))) (hc : vwCl[ci]? = some q) (cw : CallW R s args own q.1 index y bytes maxL ret wsy rm mc ms n) (hn : As.length = n) (hsz : ls.size = nL) (hst : st0 = As.reverse ++ .ref b :: rest) (hro : (rest.map fun v => v.category).sum ≤ 8) (hdg : decode cc pc = .ok (.invokevirtual index, 3)) (hf : cells + mc ≤ R.cells ∧ slots + ms ≤ R.slots)
    (kk : ∀ (u : va_W) (H1 : Heap) (locs1 : List Loc), post u → Wd G A s u H1 locs1 → W p l e R s m args below meth c H1 locs1 (cells + mc) (slots + ms) Q (F0 m (pc + 3) ls rest)) : W p l e R s m args below meth c H locs cells slots Q (F0 m pc ls st0) :=
  va_callv (va_runV S hM cw (w.preV he hc As) rfl hn hsz hst (lv_room hro) hdg hf) w.2.2.1 (fun q _ h => w.sub q h) w.sub (fun u t H1 locs1 ht hvm hp hB hz hk hS => kk u H1 locs1 hp (w.back hB ht hS))
theorem kw_iv {post : va_W → Prop} (S : CallFix p m c cc nL s args Ts own) (w : Wd G A s ws H locs) (hM : Met l y wsy rm (Pw G (.ref b :: As) ws H.size) (va_Qv post (Bw G ws H.size) (va_A ws H.size)) mc ms (va_A ws H.size)) (cw : CallB R s args own index y bytes maxL none wsy rm mc ms n ∧ y.name = "<init>" ∧ (Cond.instanceMethod y).before args s = true) (hn : As.length = n) (hsz : ls.size = nL) (hst : st0 = As.reverse ++ .ref b :: rest) (hro : (rest.map fun v => v.category).sum ≤ 8) (hdg : decode cc pc = .ok (.invokespecial index, 3)) (hf : cells + mc ≤ R.cells ∧ slots + ms ≤ R.slots)
    (kk : ∀ (u : va_W) (H1 : Heap) (locs1 : List Loc), post u → Wd G A s u H1 locs1 → W p l e R s m args below meth c H1 locs1 (cells + mc) (slots + ms) Q (F0 m (pc + 3) ls rest)) : W p l e R s m args below meth c H locs cells slots Q (F0 m pc ls st0) :=
  va_callv (va_runI S hM cw (w.preS (.ref b :: As)) rfl hn hsz hst (lv_room hro) hdg hf) w.2.2.1 (fun q _ h => w.sub q h) w.sub (fun u t H1 locs1 ht hvm hp hB hz hk hS => kk u H1 locs1 hp (w.back hB ht hS))
theorem kw_sl {post : Int64 → va_W → Prop} (S : CallFix p m c cc nL s args Ts own) (w : Wd G A s ws H locs) (hM : Met l y wsy rm (Pw G As ws H.size) (va_Ql post (Bw G ws H.size) (va_A ws H.size)) mc ms (va_A ws H.size)) (cw : CallB R s args own index y bytes maxL ret wsy rm mc ms n ∧ (Cond.static y).before args s = true) (hn : As.length = n) (hsz : ls.size = nL) (hst : st0 = As.reverse ++ rest) (hro : (rest.map fun v => v.category).sum ≤ 8) (hdg : decode cc pc = .ok (.invokestatic index, 3)) (hf : cells + mc ≤ R.cells ∧ slots + ms ≤ R.slots)
    (kk : ∀ (r : Int64) (u : va_W) (H1 : Heap) (locs1 : List Loc), post r u → Wd G A s u H1 locs1 → W p l e R s m args below meth c H1 locs1 (cells + mc) (slots + ms) Q (F0 m (pc + 3) ls (.long r :: rest))) : W p l e R s m args below meth c H locs cells slots Q (F0 m pc ls st0) :=
  va_calll (va_runS S hM cw (w.preS As) rfl hn hsz hst (lv_room hro) hdg hf) w.2.2.1 (fun q _ h => w.sub q h) w.sub (fun r u t H1 locs1 ht hvm hp hB hz hk hS => kk r u H1 locs1 hp (w.back hB ht hS))
/-! ends -/
theorem e_i {post : Int32 → Prop} {v : Int32} (S : CallFix p m c cc nL s args Ts own) (hr : meth.sig.returnType = some .int) (hlk : meth.locks = false) (hp : post v) (hdg : decode cc pc = .ok (.ireturn, 1)) : W p l e R s m args below meth c s.heap [] 0 0 (MQ below (vp_Si post) args s 0 0 (fun _ => False)) (F0 m pc ls [.int v]) :=
  W.iret S.1 S.2.1 hr (fun t ht _ => ⟨v, rfl, hp, ht⟩) (fun _ h => by cases h) hdg hlk
theorem e_z {post : Int32 → Prop} {v : Int32} (S : CallFix p m c cc nL s args Ts own) (hr : meth.sig.returnType = some .boolean) (hlk : meth.locks = false) (hv : v = 0 ∨ v = 1) (hp : post v) (hdg : decode cc pc = .ok (.ireturn, 1)) : W p l e R s m args below meth c s.heap [] 0 0 (MQ below (vp_Si post) args s 0 0 (fun _ => False)) (F0 m pc ls [.int v]) :=
  W.zret S.1 S.2.1 hr (by rcases hv with rfl | rfl <;> rfl) (fun t ht _ => ⟨v, rfl, hp, ht⟩) (fun _ h => by cases h) hdg hlk
theorem e_l {post : Int64 → Prop} {v : Int64} (S : CallFix p m c cc nL s args Ts own) (hr : meth.sig.returnType = some .long) (hlk : meth.locks = false) (hp : post v) (hdg : decode cc pc = .ok (.lreturn, 1)) : W p l e R s m args below meth c s.heap [] 0 0 (MQ below (vp_Sl post) args s 0 0 (fun _ => False)) (F0 m pc ls [.long v]) :=
  W.lret S.1 S.2.1 hr (fun t ht _ => ⟨v, rfl, hp, ht⟩) (fun _ h => by cases h) hdg hlk
theorem e_q {post : Option Nat → Prop} {r : Option Nat} {C : String} (S : CallFix p m c cc nL s args Ts own) (hr : meth.sig.returnType = some (.object C)) (hlk : meth.locks = false) (hp : post r) (hdg : decode cc pc = .ok (.areturn, 1)) : W p l e R s m args below meth c s.heap [] 0 0 (MQ below (va_Sq post) args s 0 0 (fun _ => False)) (F0 m pc ls [va_rf r]) :=
  W.aret S.1 S.2.1 hr (Or.inl ⟨C, rfl⟩) (va_rf_or r) (fun t ht _ => ⟨r, rfl, hp, ht⟩) (fun _ h => by cases h) hdg hlk
theorem ew_i {ws0 : va_W} {post : Int32 → va_W → Prop} {v : Int32} (S : CallFix p m c cc nL s args Ts own) (hr : meth.sig.returnType = some .int) (hlk : meth.locks = false) (w : Wd G (va_A ws0 s.heap.size) s ws H locs) (hp : post v ws) (hdg : decode cc pc = .ok (.ireturn, 1)) (h1 : cells ≤ mc) (h2 : slots ≤ ms) : W p l e R s m args below meth c H locs cells slots (MQ below (va_Qi post (Bw G ws0 s.heap.size) (va_A ws0 s.heap.size)) args s mc ms (va_A ws0 s.heap.size)) (F0 m pc ls [.int v]) :=
  W.widen h1 h2 (W.iret S.1 S.2.1 hr (fun t ht _ => ⟨⟨v, ws, rfl, hp, by rw [ht]; exact w.1, w.2.1⟩, w.2.2.1.F ht⟩) w.2.2.1.2.2 hdg hlk)
theorem ew_l {ws0 : va_W} {post : Int64 → va_W → Prop} {v : Int64} (S : CallFix p m c cc nL s args Ts own) (hr : meth.sig.returnType = some .long) (hlk : meth.locks = false) (w : Wd G (va_A ws0 s.heap.size) s ws H locs) (hp : post v ws) (hdg : decode cc pc = .ok (.lreturn, 1)) (h1 : cells ≤ mc) (h2 : slots ≤ ms) : W p l e R s m args below meth c H locs cells slots (MQ below (va_Ql post (Bw G ws0 s.heap.size) (va_A ws0 s.heap.size)) args s mc ms (va_A ws0 s.heap.size)) (F0 m pc ls [.long v]) :=
  W.widen h1 h2 (W.lret S.1 S.2.1 hr (fun t ht _ => ⟨⟨v, ws, rfl, hp, by rw [ht]; exact w.1, w.2.1⟩, w.2.2.1.F ht⟩) w.2.2.1.2.2 hdg hlk)
theorem ew_v {ws0 : va_W} {post : va_W → Prop} (S : CallFix p m c cc nL s args Ts own) (hr : meth.sig.returnType = none) (hlk : meth.locks = false) (w : Wd G (va_A ws0 s.heap.size) s ws H locs) (hp : post ws) (hdg : decode cc pc = .ok (.return_, 1)) (h1 : cells ≤ mc) (h2 : slots ≤ ms) : W p l e R s m args below meth c H locs cells slots (MQ below (va_Qv post (Bw G ws0 s.heap.size) (va_A ws0 s.heap.size)) args s mc ms (va_A ws0 s.heap.size)) (F0 m pc ls []) :=
  W.widen h1 h2 (W.vret S.1 S.2.1 hr (fun t ht _ => ⟨⟨ws, rfl, hp, by rw [ht]; exact w.1, w.2.1⟩, w.2.2.1.F ht⟩) w.2.2.1.2.2 hdg hlk)
/-! references that may be null -/
theorem lq_aload_n {k : Fin 4} {i : Nat} {r : Option Nat} (hx : p.tables.exec = Jvm.exec) (hb : c.code = cc) (hdg : decode cc pc = .ok (.aload_n k, 1)) (hi : (k : Nat) = i) (hl : ls[i]? = some (.val (va_rf r))) (kk : W p l e R s m args below meth c H locs cells slots Q (F0 m (pc + 1) ls (va_rf r :: rest))) : W p l e R s m args below meth c H locs cells slots Q (F0 m pc ls rest) := by
  cases r with
  | none => exact lv_aload_nN hx hb hdg hi hl kk
  | some a => exact lv_aload_n hx hb hdg hi hl kk
theorem lq_aload {i : Nat} {r : Option Nat} (hx : p.tables.exec = Jvm.exec) (hb : c.code = cc) (hdg : decode cc pc = .ok (.aload i, 2)) (hl : ls[i]? = some (.val (va_rf r))) (kk : W p l e R s m args below meth c H locs cells slots Q (F0 m (pc + 2) ls (va_rf r :: rest))) : W p l e R s m args below meth c H locs cells slots Q (F0 m pc ls rest) := by
  cases r with
  | none => exact lv_aloadN hx hb hdg hl kk
  | some a => exact lv_aload hx hb hdg hl kk
theorem lq_astore_n {k : Fin 4} {i : Nat} {r : Option Nat} {lv lv' : List (Nat × Value)} (hx : p.tables.exec = Jvm.exec) (hb : c.code = cc) (hdg : decode cc pc = .ok (.astore_n k, 1)) (hi : (k : Nat) = i) (h : lv_has ls nL lv) (hn : i < nL) (hl : (i, va_rf r) :: lv.filter (fun q => !(q.1 == i) && !(q.1 + 1 == i && q.2.category == 2)) = lv') (kk : ∀ ls' : Array Slot, lv_has ls' nL lv' → W p l e R s m args below meth c H locs cells slots Q (F0 m (pc + 1) ls' rest)) : W p l e R s m args below meth c H locs cells slots Q (F0 m pc ls (va_rf r :: rest)) := by
  cases r with
  | none => exact lv_astore_nN hx hb hdg hi h hn hl kk
  | some a => exact lv_astore_n hx hb hdg hi h hn hl kk
theorem lq_astore {i : Nat} {r : Option Nat} {lv lv' : List (Nat × Value)} (hx : p.tables.exec = Jvm.exec) (hb : c.code = cc) (hdg : decode cc pc = .ok (.astore i, 2)) (h : lv_has ls nL lv) (hn : i < nL) (hl : (i, va_rf r) :: lv.filter (fun q => !(q.1 == i) && !(q.1 + 1 == i && q.2.category == 2)) = lv') (kk : ∀ ls' : Array Slot, lv_has ls' nL lv' → W p l e R s m args below meth c H locs cells slots Q (F0 m (pc + 2) ls' rest)) : W p l e R s m args below meth c H locs cells slots Q (F0 m pc ls (va_rf r :: rest)) := by
  cases r with
  | none => exact lv_astoreN hx hb hdg h hn hl kk
  | some a => exact lv_astore hx hb hdg h hn hl kk
theorem lq_ifnull {r : Option Nat} {off : Int} {tgt : Nat} (hx : p.tables.exec = Jvm.exec) (hb : c.code = cc) (hdg : decode cc pc = .ok (.ifnull off, 3)) (ht : (pc : Int) + off = (tgt : Int)) (kn : r = none → W p l e R s m args below meth c H locs cells slots Q (F0 m tgt ls rest)) (ks : ∀ a, r = some a → W p l e R s m args below meth c H locs cells slots Q (F0 m (pc + 3) ls rest)) : W p l e R s m args below meth c H locs cells slots Q (F0 m pc ls (va_rf r :: rest)) := by
  cases r with
  | none => exact lv_ifnullN hx hb hdg ht (kn rfl)
  | some a => exact lv_ifnull hx hb hdg (ks a rfl)
theorem lq_ifnonnull {r : Option Nat} {off : Int} {tgt : Nat} (hx : p.tables.exec = Jvm.exec) (hb : c.code = cc) (hdg : decode cc pc = .ok (.ifnonnull off, 3)) (ht : (pc : Int) + off = (tgt : Int)) (kn : r = none → W p l e R s m args below meth c H locs cells slots Q (F0 m (pc + 3) ls rest)) (ks : ∀ a, r = some a → W p l e R s m args below meth c H locs cells slots Q (F0 m tgt ls rest)) : W p l e R s m args below meth c H locs cells slots Q (F0 m pc ls (va_rf r :: rest)) := by
  cases r with
  | none => exact lv_ifnonnullN hx hb hdg (kn rfl)
  | some a => exact lv_ifnonnull hx hb hdg ht (ks a rfl)
end LIBC
end
section
/-! WHAT A STATE IS. An object (kind, length, value, numbers, elements), by its number (the place of its head in the reference's row); a state: how much is used, the objects, the shelf, the list, the small numbers (0 planned, 1 stock, 2 why, 3 moved, 4 ended, 5 done, 6 refused) -/
abbrev Ob : Type := Nat × Nat × Int32 × (Nat → Int64) × (Nat → Option Nat)
def o_k (o : Ob) : Nat := o.1
def o_n (o : Ob) : Nat := o.2.1
def o_v (o : Ob) : Int32 := o.2.2.1
def o_f (o : Ob) : Nat → Int64 := o.2.2.2.1
def o_e (o : Ob) : Nat → Option Nat := o.2.2.2.2
abbrev St : Type := Nat × (Nat → Option Ob) × (Nat → Option Nat) × (Nat → Int32) × (Nat → Int32)
def s_u (S : St) : Nat := S.1
def s_o (S : St) : Nat → Option Ob := S.2.1
def s_s (S : St) : Nat → Option Nat := S.2.2.1
def s_l (S : St) : Nat → Int32 := S.2.2.2.1
def s_c (S : St) : Nat → Int32 := S.2.2.2.2
/-- which kinds fit a row of kind k -/
def fitK (k k' : Nat) : Prop := if k = 4 then k' = 0 else if k = 5 then k' = 7 ∨ k' = 8 else k' = 8
/-- the digest of a row of numbers: of its first i -/
def dgF (k : Nat) (f : Nat → Int64) : Nat → Int64
  | 0 => (nI k + 1).toInt64
  | i + 1 => 31 * dgF k f i + f i
def dgN (o : Ob) : Int64 := dgF (o_k o) (o_f o) (o_n o)
def Inv (S : St) : Prop :=
  s_u S ≤ 60000 ∧ s_c S 1 = nI (60000 - s_u S) ∧ (∃ k : Nat, k ≤ 64 ∧ s_c S 0 = nI k) ∧
  (∀ h o, s_o S h = some o → o_k o ≤ 8 ∧ o_n o ≤ 2000 ∧ h + 1 + o_n o ≤ s_u S) ∧
  (∀ h h' o o', s_o S h = some o → s_o S h' = some o' → h < h' → h + 1 + o_n o ≤ h') ∧
  (∀ i h, s_s S i = some h → ∃ o, s_o S h = some o) ∧
  (∀ h o, s_o S h = some o → 4 ≤ o_k o → o_k o ≤ 6 → ∀ i h', o_e o i = some h' → ∃ o', s_o S h' = some o' ∧ fitK (o_k o) (o_k o'))
/-! the class's cells -/
def o_cl (k : Nat) : Nat := if k ≤ 3 then 0 else if k ≤ 6 then 1 else 2
def o_fs (o : Ob) (ar : Nat) (dk : Int32) (kd : Int64) : List Value :=
  if o_k o ≤ 3 then [.int (nI (o_n o)), .int (nI (o_k o)), .ref ar, .int dk, .long kd] else if o_k o ≤ 6 then [.int (nI (o_n o)), .int (nI (o_k o)), .ref ar] else [.int (nI (o_k o)), .int (o_v o)]
theorem o_cl3 (k : Nat) : o_cl k < 3 := by
  unfold o_cl
  split
  · omega
  · split <;> omega
abbrev oX (sh li : Nat) (f : Nat → Int32) : va_E := .inr (3, [.ref sh, .ref li, .int (f 0), .int (f 1), .int (f 2), .int (f 3), .int (f 4), .int (f 5), .int (f 6)])
def ObX (G : Gt) (ad ar : Nat → Nat) (ws : va_W) (h : Nat) (o : Ob) : Prop := ∃ (dk : Int32) (kd : Int64), hp ws (ad h) (.inr (o_cl (o_k o), o_fs o (ar h) dk kd)) ∧ (dk = 0 ∨ dk = 1 ∧ kd = dgN o) ∧ (o_k o ≤ 3 → hp ws (ar h) (aJ G (o_n o) (o_f o))) ∧ (4 ≤ o_k o → o_k o ≤ 6 → hp ws (ar h) (aT G (o_n o) (fun i => (o_e o i).map ad)))
def RpX (G : Gt) (x sh li : Nat) (ad ar : Nat → Nat) (S : St) (ws : va_W) : Prop :=
  hp ws x (oX sh li (s_c S)) ∧ hp ws sh (aT G 400 (fun i => (s_s S i).map ad)) ∧ hp ws li (aI G 320 (s_l S)) ∧
  (∀ h o, s_o S h = some o → ObX G ad ar ws h o) ∧
  (∀ h h' o o', s_o S h = some o → s_o S h' = some o' → h ≠ h' → ad h ≠ ad h' ∧ (o_k o ≤ 6 → o_k o' ≤ 6 → ar h ≠ ar h')) ∧
  (∀ h o, s_o S h = some o → o_k o ≤ 6 → ar h ≠ sh)
/-! the cell of an object of a known kind -/
theorem o_num {o : Ob} (h : o_k o ≤ 3) (ar : Nat) (dk : Int32) (kd : Int64) : (Sum.inr (o_cl (o_k o), o_fs o ar dk kd) : va_E) = .inr (0, [.int (nI (o_n o)), .int (nI (o_k o)), .ref ar, .int dk, .long kd]) := by
  simp [o_cl, o_fs, h]
theorem o_obj {o : Ob} (h : 4 ≤ o_k o) (h' : o_k o ≤ 6) (ar : Nat) (dk : Int32) (kd : Int64) : (Sum.inr (o_cl (o_k o), o_fs o ar dk kd) : va_E) = .inr (1, [.int (nI (o_n o)), .int (nI (o_k o)), .ref ar]) := by
  have h3 : ¬ o_k o ≤ 3 := by omega
  simp [o_cl, o_fs, h3, h']
theorem o_thg {o : Ob} (h : 7 ≤ o_k o) (ar : Nat) (dk : Int32) (kd : Int64) : (Sum.inr (o_cl (o_k o), o_fs o ar dk kd) : va_E) = .inr (2, [.int (nI (o_k o)), .int (o_v o)]) := by
  have h3 : ¬ o_k o ≤ 3 := by omega
  have h6 : ¬ o_k o ≤ 6 := by omega
  simp [o_cl, o_fs, h3, h6]
theorem hu.keep {ws ws' : va_W} {a b : Nat} {e e0 : va_E} (h : hu ws a e ws') (hb : b ≠ a) (h0 : hp ws b e0) : hp ws' b e0 := (h.2 b e0 hb).mpr h0
/-- what an object's cells need to stay -/
theorem ObX.keep {G : Gt} {ad ar : Nat → Nat} {ws ws' : va_W} {h : Nat} {o : Ob} {a : Nat} {e : va_E} (hO : ObX G ad ar ws h o) (hW : hu ws a e ws') (h1 : ad h ≠ a) (h2 : o_k o ≤ 6 → ar h ≠ a) : ObX G ad ar ws' h o := by
  obtain ⟨dk, kd, q1, q2, q3, q4⟩ := hO
  exact ⟨dk, kd, hW.keep h1 q1, q2, fun z => hW.keep (h2 (by omega)) (q3 z), fun z z' => hW.keep (h2 z') (q4 z z')⟩
theorem ObX.ne_x {G : Gt} {ad ar : Nat → Nat} {A : Nat → Prop} {ws : va_W} {h : Nat} {o : Ob} {x ci : Nat} {fs : List Value} (hD : va_D A ws) (hO : ObX G ad ar ws h o) (hx : hp ws x (.inr (ci, fs))) (hc : 3 ≤ ci) : ad h ≠ x ∧ (o_k o ≤ 6 → ar h ≠ x) := by
  obtain ⟨dk, kd, q1, q2, q3, q4⟩ := hO
  refine ⟨hp_ne_of hD q1 hx (fun q => ?_), fun z => ?_⟩
  · have := o_cl3 (o_k o)
    cases q
    omega
  · by_cases h3 : o_k o ≤ 3
    · exact hp_ne_of hD (q3 h3) hx (fun q => by cases q)
    · exact hp_ne_of hD (q4 (by omega) z) hx (fun q => by cases q)
theorem ObX.ne_i {G : Gt} {ad ar : Nat → Nat} {A : Nat → Prop} {ws : va_W} {h : Nat} {o : Ob} {x n : Nat} {f : Nat → Int32} (hD : va_D A ws) (hO : ObX G ad ar ws h o) (hx : hp ws x (aI G n f)) : ad h ≠ x ∧ (o_k o ≤ 6 → ar h ≠ x) := by
  obtain ⟨dk, kd, q1, q2, q3, q4⟩ := hO
  refine ⟨hp_ne_of hD q1 hx (fun q => by cases q), fun z => ?_⟩
  by_cases h3 : o_k o ≤ 3
  · exact hp_ne_of hD (q3 h3) hx (fun q => by simp at q)
  · exact hp_ne_of hD (q4 (by omega) z) hx (fun q => by simp at q)
/-- the small numbers change -/
theorem RpX.sc {G : Gt} {x sh li : Nat} {ad ar : Nat → Nat} {S : St} {A : Nat → Prop} {ws ws' : va_W} {f : Nat → Int32} {E : va_E} (hD : va_D A ws) (h : RpX G x sh li ad ar S ws) (hW : hu ws x E ws') (hE : E = oX sh li f) : RpX G x sh li ad ar (s_u S, s_o S, s_s S, s_l S, f) ws' := by
  subst hE
  obtain ⟨h1, h2, h3, h4, h5, h6⟩ := h
  refine ⟨hW.1, hW.keep (hp_ne_of hD h2 h1 (fun q => by cases q)) h2, hW.keep (hp_ne_of hD h3 h1 (fun q => by cases q)) h3, fun a o ho => ?_, h5, h6⟩
  have hn := (h4 a o ho).ne_x hD h1 (Nat.le_refl 3)
  exact (h4 a o ho).keep hW hn.1 hn.2
/-- the shelf changes -/
theorem RpX.sf {G : Gt} {x sh li : Nat} {ad ar : Nat → Nat} {S : St} {A : Nat → Prop} {ws ws' : va_W} {f : Nat → Option Nat} {E : va_E} (hD : va_D A ws) (h : RpX G x sh li ad ar S ws) (hW : hu ws sh E ws') (hE : E = aT G 400 (fun i => (f i).map ad)) : RpX G x sh li ad ar (s_u S, s_o S, f, s_l S, s_c S) ws' := by
  subst hE
  obtain ⟨h1, h2, h3, h4, h5, h6⟩ := h
  refine ⟨hW.keep (hp_ne_of hD h1 h2 (fun q => by cases q)) h1, hW.1, hW.keep (hp_ne_of hD h3 h2 (fun q => by simp at q)) h3, fun a o ho => ?_, h5, h6⟩
  refine (h4 a o ho).keep hW ?_ (h6 a o ho)
  obtain ⟨dk, kd, q1, -⟩ := h4 a o ho
  exact hp_ne_of hD q1 h2 (fun q => by cases q)
/-- the list changes -/
theorem RpX.lf {G : Gt} {x sh li : Nat} {ad ar : Nat → Nat} {S : St} {A : Nat → Prop} {ws ws' : va_W} {f : Nat → Int32} {E : va_E} (hD : va_D A ws) (h : RpX G x sh li ad ar S ws) (hW : hu ws li E ws') (hE : E = aI G 320 f) : RpX G x sh li ad ar (s_u S, s_o S, s_s S, f, s_c S) ws' := by
  subst hE
  obtain ⟨h1, h2, h3, h4, h5, h6⟩ := h
  refine ⟨hW.keep (hp_ne_of hD h1 h3 (fun q => by cases q)) h1, hW.keep (hp_ne_of hD h2 h3 (fun q => by simp at q)) h2, hW.1, fun a o ho => ?_, h5, h6⟩
  have hn := (h4 a o ho).ne_i hD h3
  exact (h4 a o ho).keep hW hn.1 hn.2
/-- the small numbers' fields -/
theorem oX_set (sh li : Nat) (f : Nat → Int32) (k : Nat) (hk : k < 7) (v : Int32) : (Sum.inr (3, ([.ref sh, .ref li, .int (f 0), .int (f 1), .int (f 2), .int (f 3), .int (f 4), .int (f 5), .int (f 6)] : List Value).set (k + 2) (.int v)) : va_E) = oX sh li (upd f k v) := by
  match k, hk with
  | 0, _ => rfl
  | 1, _ => rfl
  | 2, _ => rfl
  | 3, _ => rfl
  | 4, _ => rfl
  | 5, _ => rfl
  | 6, _ => rfl
end
section
/-! small numbers -/
theorem ii_lt {a b : Int32} : a < b ↔ a.toInt < b.toInt := Int32.lt_iff_toInt_lt
theorem ii_le {a b : Int32} : a ≤ b ↔ a.toInt ≤ b.toInt := Int32.le_iff_toInt_le
theorem in_of {i : Int32} {n : Nat} (h0 : ¬ i < 0) (h : ¬ nI n ≤ i) (hn : n < 2 ^ 31) : vp_in i n := by
  rw [vp_in_iff]
  rw [ii_lt] at h0
  rw [ii_le, nI_toInt hn] at h
  have e0 : (0 : Int32).toInt = 0 := rfl
  omega
abbrev inE (n : Nat) (i : Int32) : Prop := ¬ i < 0 ∧ ¬ nI n ≤ i
theorem inE_in {n : Nat} {i : Int32} (h : inE n i) (hn : n < 2 ^ 31) : vp_in i n := in_of h.1 h.2 hn
abbrev inS (n : Nat) (i k : Int32) : Prop := ¬ i < 0 ∧ ¬ k < 0 ∧ i.toInt + k.toInt ≤ n
/-! WHAT THE METHODS ANSWER -/
def itm (S : St) (i : Int32) : Option Nat := if i < 0 then none else if 400 ≤ i then none else s_s S i.toNatClampNeg
/-- the lowest empty place from k on, of n -/
def low0 (f : Nat → Option Nat) : Nat → Nat → Option Nat
  | 0, _ => none
  | n + 1, k => match f k with
    | none => some k
    | some _ => low0 f n (k + 1)
def lowE (S : St) : Option Nat := low0 (s_s S) 400 0
def pI (r : Option Nat) : Int32 := match r with
  | none => -1
  | some k => nI k
/-- how many of the first n are taken -/
def tkn (f : Nat → Option Nat) : Nat → Nat
  | 0 => 0
  | n + 1 => tkn f n + (match f n with
    | none => 0
    | some _ => 1)
def obj (S : St) (r : Option Nat) : Option Ob := r.bind (s_o S)
/-- what get tells of an object -/
def told (q : Option Ob) : Int64 := match q with
  | none => -1
  | some o => if 7 ≤ o_k o then (nI (o_k o)).toInt64 * 4294967296 + ((o_v o).toInt64 &&& 4294967295) else (nI (o_n o)).toInt64
/-- reasons 1 to 4 -/
def ref1 (q : Option Ob) (i lo hi : Int32) : Int32 := match q with
  | none => 1
  | some o => if 7 ≤ o_k o then 2 else if nI (o_k o) < lo then 3 else if nI (o_k o) ≤ hi then (if inE (o_n o) i then 0 else 4) else 3
def fit1 (k : Nat) (q : Option Ob) : Prop := match q with
  | none => True
  | some o => fitK k (o_k o)
def isR (q : Option Ob) : Prop := ∃ o, q = some o ∧ o_k o ≤ 6
/-- reasons 1 to 3 of a move -/
def ref3 (q q' : Option Ob) : Int32 := match q, q' with
  | some o, some o' => if 7 ≤ o_k o then 2 else if 7 ≤ o_k o' then 2 else if (4 ≤ o_k o ∧ 4 ≤ o_k o') ∨ o_k o = o_k o' then 0 else 3
  | _, _ => 1
/-- what a row of numbers keeps of a long -/
def narK (k : Nat) (v : Int64) : Int64 := if k = 0 then v.toInt32.toInt64 else if k = 2 then (v.toInt32.toInt8.toInt32).toInt64 else if k = 3 then FP.d2l (FP.l2d v) else v
theorem ll_add {i j : Int32} : (i.toInt64 + j.toInt64).toInt = i.toInt + j.toInt := by
  have h1 := Int32.toInt_lt i
  have h2 := Int32.le_toInt i
  have h3 := Int32.toInt_lt j
  have h4 := Int32.le_toInt j
  rw [Int64.toInt_add, Int32.toInt_toInt64, Int32.toInt_toInt64, Int.bmod_def]
  split <;> omega
theorem span_cmp {n : Nat} (hn : n < 2 ^ 31) {i j v : Int32} {a b d e : Int64} (e1 : Int32.toInt64 i = a) (e2 : Int32.toInt64 j = b) (e3 : d = a + b) (e4 : Int32.toInt64 (nI n) = e) (e5 : v = lg_cmp d e) : 0 < v ↔ ¬ i.toInt + j.toInt ≤ n := by
  subst e1; subst e2; subst e3; subst e4; subst e5
  rw [lg_cmp_gt, Int64.lt_iff_toInt_lt, ll_add, Int32.toInt_toInt64, nI_toInt hn]
  omega
theorem sw5 (i : Int32) : i = 0 ∨ i = 1 ∨ i = 2 ∨ i = 3 ∨ i = 4 ∨ (i.toInt < 0 ∨ 4 < i.toInt) := by
  have e0 : (0 : Int32).toInt = 0 := rfl
  have e1 : (1 : Int32).toInt = 1 := rfl
  have e2 : (2 : Int32).toInt = 2 := rfl
  have e3 : (3 : Int32).toInt = 3 := rfl
  have e4 : (4 : Int32).toInt = 4 := rfl
  rw [← Int32.toInt_inj, ← Int32.toInt_inj, ← Int32.toInt_inj, ← Int32.toInt_inj, ← Int32.toInt_inj, e0, e1, e2, e3, e4]
  omega
theorem nI_inj {a b : Nat} (ha : a < 2 ^ 31) (hb : b < 2 ^ 31) (h : nI a = nI b) : a = b := (nI_eq ha hb).mp h
theorem nI_lit {k j : Nat} (hk : k < 2 ^ 31) (hj : j < 2 ^ 31) : (nI k = nI j) = (k = j) := propext (nI_eq hk hj)
theorem nIe0 {k : Nat} (hk : k ≤ 8) : (nI k = 0) = (k = 0) := nI_lit (j := 0) (by omega) (by decide)
theorem nIe4 {k : Nat} (hk : k ≤ 8) : (nI k = 4) = (k = 4) := nI_lit (j := 4) (by omega) (by decide)
theorem nIe5 {k : Nat} (hk : k ≤ 8) : (nI k = 5) = (k = 5) := nI_lit (j := 5) (by omega) (by decide)
theorem nIe7 {k : Nat} (hk : k ≤ 8) : (nI k = 7) = (k = 7) := nI_lit (j := 7) (by omega) (by decide)
theorem nIe8 {k : Nat} (hk : k ≤ 8) : (nI k = 8) = (k = 8) := nI_lit (j := 8) (by omega) (by decide)
end
section
set_option maxHeartbeats 4000000 in
set_option maxRecDepth 100000 in
/-- itemAt -/
theorem c_itemAt (l : Launch) {G : Gt} {ws : va_W} (sz : Nat) {x sh li : Nat} {ad ar : Nat → Nat} {S : St} (hR : RpX G x sh li ad ar S ws) (i : Int32) : Met l yX5_itemAt wsX5_itemAt ({ frames := 0, cells := 0, slots := 0, locals := 0 } : Room) (Pw G [.ref x, .int i] ws sz) (va_Sq (fun r : Option Nat => r = (itm S i).map ad)) 0 0 (fun _ => False) := by
  refine Met_pw (cc := cX5_itemAt) (maxL := 2) (ret := (some (.object "SpanMover$Item"))) (by decide) rfl (Nat.le_of_ble_eq_true rfl) ?_
  intro p e s m below meth c ls hsz S9 hr hlk hnm w hl
  subst hsz
  replace S9 : CallFix p m c cX5_itemAt 2 s _ wsX5_itemAt RX5 := S9
  have hx := S9.1
  have hb := S9.2.1
  have hown := S9.2.2.2.1
  have hts := S9.2.2.2.2
  replace hl : lv_has ls 2 [(0, .ref x), (1, .int i)] := hl
  refine lv_iload_n hx hb dX5_itemAt_0 rfl (lv_at hl 1 rfl) ?_
  refine lv_if_lt (tgt := 20) hx hb dX5_itemAt_1 (by decide) (fun c_1 => ?_) (fun c_1 => ?_)
  · refine lv_null hx hb dX5_itemAt_20 ?_
    exact e_q (r := none) S9 hr hlk (by simp [itm, c_1]) dX5_itemAt_21
  · refine lv_iload_n hx hb dX5_itemAt_4 rfl (lv_at hl 1 rfl) ?_
    refine lv_sipush (v := 400) hx hb dX5_itemAt_5 (by decide) ?_
    refine lv_icmp_ge (tgt := 20) hx hb dX5_itemAt_8 (by decide) (fun c_8 => ?_) (fun c_8 => ?_)
    · refine lv_null hx hb dX5_itemAt_20 ?_
      exact e_q (r := none) S9 hr hlk (by simp [itm, c_1, c_8]) dX5_itemAt_21
    · refine lv_aload_n hx hb dX5_itemAt_11 rfl (lv_at hl 0 rfl) ?_
      refine r_get (ref := "SpanMover") S9 w hR.1 rfl (by decide +kernel) 0 (by decide) (by decide +kernel) (Or.inl rfl) rfl dX5_itemAt_12 ?_
      refine lv_iload_n hx hb dX5_itemAt_15 rfl (lv_at hl 1 rfl) ?_
      refine r_aald S9 w hR.2.1 (in_of c_1 c_8 (by decide)) dX5_itemAt_16 ?_
      refine lv_goto (tgt := 21) hx hb dX5_itemAt_17 (by decide) ?_
      exact e_q (r := (fun i => (s_s S i).map ad) i.toNatClampNeg) S9 hr hlk (by simp [itm, c_1, c_8]) dX5_itemAt_21

set_option maxHeartbeats 4000000 in
set_option maxRecDepth 100000 in
theorem c_why (l : Launch) {G : Gt} {ws : va_W} (sz : Nat) {x sh li : Nat} {ad ar : Nat → Nat} {S : St} (hR : RpX G x sh li ad ar S ws) : Met l yX5_why wsX5_why ({ frames := 0, cells := 0, slots := 0, locals := 0 } : Room) (Pw G [.ref x] ws sz) (vp_Si (fun r : Int32 => r = s_c S 2)) 0 0 (fun _ => False) := by
  refine Met_pw (cc := cX5_why) (maxL := 1) (ret := (some .int)) (by decide) rfl (Nat.le_of_ble_eq_true rfl) ?_
  intro p e s m below meth c ls hsz S9 hr hlk hnm w hl
  subst hsz
  replace S9 : CallFix p m c cX5_why 1 s _ wsX5_why RX5 := S9
  have hx := S9.1
  have hb := S9.2.1
  have hown := S9.2.2.2.1
  have hts := S9.2.2.2.2
  replace hl : lv_has ls 1 [(0, .ref x)] := hl
  refine lv_aload_n hx hb dX5_why_0 rfl (lv_at hl 0 rfl) ?_
  refine r_get (ref := "SpanMover") S9 w hR.1 rfl (by decide +kernel) 4 (by decide) (by decide +kernel) (Or.inl rfl) rfl dX5_why_1 ?_
  exact e_i S9 hr hlk (rfl) dX5_why_4

set_option maxHeartbeats 4000000 in
set_option maxRecDepth 100000 in
theorem c_moved (l : Launch) {G : Gt} {ws : va_W} (sz : Nat) {x sh li : Nat} {ad ar : Nat → Nat} {S : St} (hR : RpX G x sh li ad ar S ws) : Met l yX5_moved wsX5_moved ({ frames := 0, cells := 0, slots := 0, locals := 0 } : Room) (Pw G [.ref x] ws sz) (vp_Si (fun r : Int32 => r = s_c S 3)) 0 0 (fun _ => False) := by
  refine Met_pw (cc := cX5_moved) (maxL := 1) (ret := (some .int)) (by decide) rfl (Nat.le_of_ble_eq_true rfl) ?_
  intro p e s m below meth c ls hsz S9 hr hlk hnm w hl
  subst hsz
  replace S9 : CallFix p m c cX5_moved 1 s _ wsX5_moved RX5 := S9
  have hx := S9.1
  have hb := S9.2.1
  have hown := S9.2.2.2.1
  have hts := S9.2.2.2.2
  replace hl : lv_has ls 1 [(0, .ref x)] := hl
  refine lv_aload_n hx hb dX5_moved_0 rfl (lv_at hl 0 rfl) ?_
  refine r_get (ref := "SpanMover") S9 w hR.1 rfl (by decide +kernel) 5 (by decide) (by decide +kernel) (Or.inl rfl) rfl dX5_moved_1 ?_
  exact e_i S9 hr hlk (rfl) dX5_moved_4

set_option maxHeartbeats 4000000 in
set_option maxRecDepth 100000 in
theorem c_ended (l : Launch) {G : Gt} {ws : va_W} (sz : Nat) {x sh li : Nat} {ad ar : Nat → Nat} {S : St} (hR : RpX G x sh li ad ar S ws) : Met l yX5_ended wsX5_ended ({ frames := 0, cells := 0, slots := 0, locals := 0 } : Room) (Pw G [.ref x] ws sz) (vp_Si (fun r : Int32 => r = s_c S 4)) 0 0 (fun _ => False) := by
  refine Met_pw (cc := cX5_ended) (maxL := 1) (ret := (some .int)) (by decide) rfl (Nat.le_of_ble_eq_true rfl) ?_
  intro p e s m below meth c ls hsz S9 hr hlk hnm w hl
  subst hsz
  replace S9 : CallFix p m c cX5_ended 1 s _ wsX5_ended RX5 := S9
  have hx := S9.1
  have hb := S9.2.1
  have hown := S9.2.2.2.1
  have hts := S9.2.2.2.2
  replace hl : lv_has ls 1 [(0, .ref x)] := hl
  refine lv_aload_n hx hb dX5_ended_0 rfl (lv_at hl 0 rfl) ?_
  refine r_get (ref := "SpanMover") S9 w hR.1 rfl (by decide +kernel) 6 (by decide) (by decide +kernel) (Or.inl rfl) rfl dX5_ended_1 ?_
  exact e_i S9 hr hlk (rfl) dX5_ended_4

set_option maxHeartbeats 4000000 in
set_option maxRecDepth 100000 in
theorem c_hasElement_0 (l : Launch) {G : Gt} {ws : va_W} (sz : Nat) {n k a b : Nat} {dk : Int32} {kd : Int64} (ha : hp ws a (.inr (0, [.int (nI n), .int (nI k), .ref b, .int dk, .long kd]))) (i : Int32) : Met l yX3_hasElement wsX3_hasElement ({ frames := 0, cells := 0, slots := 0, locals := 0 } : Room) (Pw G [.ref a, .int i] ws sz) (vp_Si (fun r : Int32 => r = if inE n i then 1 else 0)) 0 0 (fun _ => False) := by
  refine Met_pw (cc := cX3_hasElement) (maxL := 2) (ret := (some .boolean)) (by decide) rfl (Nat.le_of_ble_eq_true rfl) ?_
  intro p e s m below meth c ls hsz S9 hr hlk hnm w hl
  subst hsz
  replace S9 : CallFix p m c cX3_hasElement 2 s _ wsX3_hasElement RX3 := S9
  have hx := S9.1
  have hb := S9.2.1
  have hown := S9.2.2.2.1
  have hts := S9.2.2.2.2
  replace hl : lv_has ls 2 [(0, .ref a), (1, .int i)] := hl
  refine lv_iload_n hx hb dX3_hasElement_0 rfl (lv_at hl 1 rfl) ?_
  refine lv_if_lt (tgt := 16) hx hb dX3_hasElement_1 (by decide) (fun c_1 => ?_) (fun c_1 => ?_)
  · refine lv_iconst (v := 0) hx hb dX3_hasElement_16 (by decide) ?_
    exact e_z S9 hr hlk (by first | exact Or.inl rfl | exact Or.inr rfl) (by simp [inE, c_1]) dX3_hasElement_17
  · refine lv_iload_n hx hb dX3_hasElement_4 rfl (lv_at hl 1 rfl) ?_
    refine lv_aload_n hx hb dX3_hasElement_5 rfl (lv_at hl 0 rfl) ?_
    refine r_get (ref := "SpanMover$Row") S9 w ha rfl (by decide +kernel) 0 (by decide) (by decide +kernel) (Or.inl rfl) rfl dX3_hasElement_6 ?_
    refine lv_icmp_ge (tgt := 16) hx hb dX3_hasElement_9 (by decide) (fun c_9 => ?_) (fun c_9 => ?_)
    · refine lv_iconst (v := 0) hx hb dX3_hasElement_16 (by decide) ?_
      exact e_z S9 hr hlk (by first | exact Or.inl rfl | exact Or.inr rfl) (by simp [inE, c_1, c_9]) dX3_hasElement_17
    · refine lv_iconst (v := 1) hx hb dX3_hasElement_12 (by decide) ?_
      refine lv_goto (tgt := 17) hx hb dX3_hasElement_13 (by decide) ?_
      exact e_z S9 hr hlk (by first | exact Or.inl rfl | exact Or.inr rfl) (by simp [inE, c_1, c_9]) dX3_hasElement_17

set_option maxHeartbeats 4000000 in
set_option maxRecDepth 100000 in
theorem c_hasSpan_0 (l : Launch) {G : Gt} {ws : va_W} (sz : Nat) {n k a b : Nat} {dk : Int32} {kd : Int64} (ha : hp ws a (.inr (0, [.int (nI n), .int (nI k), .ref b, .int dk, .long kd]))) (hn : n < 2 ^ 31) (i j : Int32) : Met l yX3_hasSpan wsX3_hasSpan ({ frames := 0, cells := 0, slots := 0, locals := 0 } : Room) (Pw G [.ref a, .int i, .int j] ws sz) (vp_Si (fun r : Int32 => r = if inS n i j then 1 else 0)) 0 0 (fun _ => False) := by
  refine Met_pw (cc := cX3_hasSpan) (maxL := 3) (ret := (some .boolean)) (by decide) rfl (Nat.le_of_ble_eq_true rfl) ?_
  intro p e s m below meth c ls hsz S9 hr hlk hnm w hl
  subst hsz
  replace S9 : CallFix p m c cX3_hasSpan 3 s _ wsX3_hasSpan RX3 := S9
  have hx := S9.1
  have hb := S9.2.1
  have hown := S9.2.2.2.1
  have hts := S9.2.2.2.2
  replace hl : lv_has ls 3 [(0, .ref a), (1, .int i), (2, .int j)] := hl
  refine lv_iload_n hx hb dX3_hasSpan_0 rfl (lv_at hl 1 rfl) ?_
  refine lv_if_lt (tgt := 26) hx hb dX3_hasSpan_1 (by decide) (fun c_1 => ?_) (fun c_1 => ?_)
  · refine lv_iconst (v := 0) hx hb dX3_hasSpan_26 (by decide) ?_
    exact e_z S9 hr hlk (by first | exact Or.inl rfl | exact Or.inr rfl) (by simp [inS, c_1]) dX3_hasSpan_27
  · refine lv_iload_n hx hb dX3_hasSpan_4 rfl (lv_at hl 2 rfl) ?_
    refine lv_if_lt (tgt := 26) hx hb dX3_hasSpan_5 (by decide) (fun c_5 => ?_) (fun c_5 => ?_)
    · refine lv_iconst (v := 0) hx hb dX3_hasSpan_26 (by decide) ?_
      exact e_z S9 hr hlk (by first | exact Or.inl rfl | exact Or.inr rfl) (by simp [inS, c_1, c_5]) dX3_hasSpan_27
    · refine lv_iload_n hx hb dX3_hasSpan_8 rfl (lv_at hl 1 rfl) ?_
      obtain ⟨v1, ev1⟩ : ∃ z : Int64, Int32.toInt64 i = z := ⟨_, rfl⟩
      refine lv_i2l (v := v1) hx hb dX3_hasSpan_9 ev1 ?_
      refine lv_iload_n hx hb dX3_hasSpan_10 rfl (lv_at hl 2 rfl) ?_
      obtain ⟨v2, ev2⟩ : ∃ z : Int64, Int32.toInt64 j = z := ⟨_, rfl⟩
      refine lv_i2l (v := v2) hx hb dX3_hasSpan_11 ev2 ?_
      refine lv_ladd hx hb dX3_hasSpan_12 ?_
      refine lv_topl (fun v3 ev3 => ?_)
      refine lv_aload_n hx hb dX3_hasSpan_13 rfl (lv_at hl 0 rfl) ?_
      refine r_get (ref := "SpanMover$Row") S9 w ha rfl (by decide +kernel) 0 (by decide) (by decide +kernel) (Or.inl rfl) rfl dX3_hasSpan_14 ?_
      obtain ⟨v4, ev4⟩ : ∃ z : Int64, Int32.toInt64 (nI n) = z := ⟨_, rfl⟩
      refine lv_i2l (v := v4) hx hb dX3_hasSpan_17 ev4 ?_
      refine W.lcmp hx hb dX3_hasSpan_18 ?_
      refine lv_topi (fun v5 ev5 => ?_)
      refine lv_if_gt (tgt := 26) hx hb dX3_hasSpan_19 (by decide) (fun c_19 => ?_) (fun c_19 => ?_)
      · refine lv_iconst (v := 0) hx hb dX3_hasSpan_26 (by decide) ?_
        exact e_z S9 hr hlk (by first | exact Or.inl rfl | exact Or.inr rfl) (by rw [span_cmp hn ev1 ev2 ev3 ev4 ev5] at c_19; simp [inS, c_1, c_5, c_19]) dX3_hasSpan_27
      · refine lv_iconst (v := 1) hx hb dX3_hasSpan_22 (by decide) ?_
        refine lv_goto (tgt := 27) hx hb dX3_hasSpan_23 (by decide) ?_
        exact e_z S9 hr hlk (by first | exact Or.inl rfl | exact Or.inr rfl) (by rw [span_cmp hn ev1 ev2 ev3 ev4 ev5] at c_19; simp [inS, c_1, c_5, Decidable.not_not.mp c_19]) dX3_hasSpan_27

set_option maxHeartbeats 4000000 in
set_option maxRecDepth 100000 in
theorem c_hasElement_1 (l : Launch) {G : Gt} {ws : va_W} (sz : Nat) {n k a b : Nat} (ha : hp ws a (.inr (1, [.int (nI n), .int (nI k), .ref b]))) (i : Int32) : Met l yX3_hasElement wsX3_hasElement ({ frames := 0, cells := 0, slots := 0, locals := 0 } : Room) (Pw G [.ref a, .int i] ws sz) (vp_Si (fun r : Int32 => r = if inE n i then 1 else 0)) 0 0 (fun _ => False) := by
  refine Met_pw (cc := cX3_hasElement) (maxL := 2) (ret := (some .boolean)) (by decide) rfl (Nat.le_of_ble_eq_true rfl) ?_
  intro p e s m below meth c ls hsz S9 hr hlk hnm w hl
  subst hsz
  replace S9 : CallFix p m c cX3_hasElement 2 s _ wsX3_hasElement RX3 := S9
  have hx := S9.1
  have hb := S9.2.1
  have hown := S9.2.2.2.1
  have hts := S9.2.2.2.2
  replace hl : lv_has ls 2 [(0, .ref a), (1, .int i)] := hl
  refine lv_iload_n hx hb dX3_hasElement_0 rfl (lv_at hl 1 rfl) ?_
  refine lv_if_lt (tgt := 16) hx hb dX3_hasElement_1 (by decide) (fun c_1 => ?_) (fun c_1 => ?_)
  · refine lv_iconst (v := 0) hx hb dX3_hasElement_16 (by decide) ?_
    exact e_z S9 hr hlk (by first | exact Or.inl rfl | exact Or.inr rfl) (by simp [inE, c_1]) dX3_hasElement_17
  · refine lv_iload_n hx hb dX3_hasElement_4 rfl (lv_at hl 1 rfl) ?_
    refine lv_aload_n hx hb dX3_hasElement_5 rfl (lv_at hl 0 rfl) ?_
    refine r_get (ref := "SpanMover$Row") S9 w ha rfl (by decide +kernel) 0 (by decide) (by decide +kernel) (Or.inl rfl) rfl dX3_hasElement_6 ?_
    refine lv_icmp_ge (tgt := 16) hx hb dX3_hasElement_9 (by decide) (fun c_9 => ?_) (fun c_9 => ?_)
    · refine lv_iconst (v := 0) hx hb dX3_hasElement_16 (by decide) ?_
      exact e_z S9 hr hlk (by first | exact Or.inl rfl | exact Or.inr rfl) (by simp [inE, c_1, c_9]) dX3_hasElement_17
    · refine lv_iconst (v := 1) hx hb dX3_hasElement_12 (by decide) ?_
      refine lv_goto (tgt := 17) hx hb dX3_hasElement_13 (by decide) ?_
      exact e_z S9 hr hlk (by first | exact Or.inl rfl | exact Or.inr rfl) (by simp [inE, c_1, c_9]) dX3_hasElement_17

set_option maxHeartbeats 4000000 in
set_option maxRecDepth 100000 in
theorem c_hasSpan_1 (l : Launch) {G : Gt} {ws : va_W} (sz : Nat) {n k a b : Nat} (ha : hp ws a (.inr (1, [.int (nI n), .int (nI k), .ref b]))) (hn : n < 2 ^ 31) (i j : Int32) : Met l yX3_hasSpan wsX3_hasSpan ({ frames := 0, cells := 0, slots := 0, locals := 0 } : Room) (Pw G [.ref a, .int i, .int j] ws sz) (vp_Si (fun r : Int32 => r = if inS n i j then 1 else 0)) 0 0 (fun _ => False) := by
  refine Met_pw (cc := cX3_hasSpan) (maxL := 3) (ret := (some .boolean)) (by decide) rfl (Nat.le_of_ble_eq_true rfl) ?_
  intro p e s m below meth c ls hsz S9 hr hlk hnm w hl
  subst hsz
  replace S9 : CallFix p m c cX3_hasSpan 3 s _ wsX3_hasSpan RX3 := S9
  have hx := S9.1
  have hb := S9.2.1
  have hown := S9.2.2.2.1
  have hts := S9.2.2.2.2
  replace hl : lv_has ls 3 [(0, .ref a), (1, .int i), (2, .int j)] := hl
  refine lv_iload_n hx hb dX3_hasSpan_0 rfl (lv_at hl 1 rfl) ?_
  refine lv_if_lt (tgt := 26) hx hb dX3_hasSpan_1 (by decide) (fun c_1 => ?_) (fun c_1 => ?_)
  · refine lv_iconst (v := 0) hx hb dX3_hasSpan_26 (by decide) ?_
    exact e_z S9 hr hlk (by first | exact Or.inl rfl | exact Or.inr rfl) (by simp [inS, c_1]) dX3_hasSpan_27
  · refine lv_iload_n hx hb dX3_hasSpan_4 rfl (lv_at hl 2 rfl) ?_
    refine lv_if_lt (tgt := 26) hx hb dX3_hasSpan_5 (by decide) (fun c_5 => ?_) (fun c_5 => ?_)
    · refine lv_iconst (v := 0) hx hb dX3_hasSpan_26 (by decide) ?_
      exact e_z S9 hr hlk (by first | exact Or.inl rfl | exact Or.inr rfl) (by simp [inS, c_1, c_5]) dX3_hasSpan_27
    · refine lv_iload_n hx hb dX3_hasSpan_8 rfl (lv_at hl 1 rfl) ?_
      obtain ⟨v1, ev1⟩ : ∃ z : Int64, Int32.toInt64 i = z := ⟨_, rfl⟩
      refine lv_i2l (v := v1) hx hb dX3_hasSpan_9 ev1 ?_
      refine lv_iload_n hx hb dX3_hasSpan_10 rfl (lv_at hl 2 rfl) ?_
      obtain ⟨v2, ev2⟩ : ∃ z : Int64, Int32.toInt64 j = z := ⟨_, rfl⟩
      refine lv_i2l (v := v2) hx hb dX3_hasSpan_11 ev2 ?_
      refine lv_ladd hx hb dX3_hasSpan_12 ?_
      refine lv_topl (fun v3 ev3 => ?_)
      refine lv_aload_n hx hb dX3_hasSpan_13 rfl (lv_at hl 0 rfl) ?_
      refine r_get (ref := "SpanMover$Row") S9 w ha rfl (by decide +kernel) 0 (by decide) (by decide +kernel) (Or.inl rfl) rfl dX3_hasSpan_14 ?_
      obtain ⟨v4, ev4⟩ : ∃ z : Int64, Int32.toInt64 (nI n) = z := ⟨_, rfl⟩
      refine lv_i2l (v := v4) hx hb dX3_hasSpan_17 ev4 ?_
      refine W.lcmp hx hb dX3_hasSpan_18 ?_
      refine lv_topi (fun v5 ev5 => ?_)
      refine lv_if_gt (tgt := 26) hx hb dX3_hasSpan_19 (by decide) (fun c_19 => ?_) (fun c_19 => ?_)
      · refine lv_iconst (v := 0) hx hb dX3_hasSpan_26 (by decide) ?_
        exact e_z S9 hr hlk (by first | exact Or.inl rfl | exact Or.inr rfl) (by rw [span_cmp hn ev1 ev2 ev3 ev4 ev5] at c_19; simp [inS, c_1, c_5, c_19]) dX3_hasSpan_27
      · refine lv_iconst (v := 1) hx hb dX3_hasSpan_22 (by decide) ?_
        refine lv_goto (tgt := 27) hx hb dX3_hasSpan_23 (by decide) ?_
        exact e_z S9 hr hlk (by first | exact Or.inl rfl | exact Or.inr rfl) (by rw [span_cmp hn ev1 ev2 ev3 ev4 ev5] at c_19; simp [inS, c_1, c_5, Decidable.not_not.mp c_19]) dX3_hasSpan_27

set_option maxHeartbeats 4000000 in
set_option maxRecDepth 100000 in
theorem c_numberAt (l : Launch) {G : Gt} {ws : va_W} (sz : Nat) {n k a b : Nat} {dk : Int32} {kd : Int64} (ha : hp ws a (.inr (0, [.int (nI n), .int (nI k), .ref b, .int dk, .long kd]))) {f : Nat → Int64} (hb0 : hp ws b (aJ G n f)) (i : Int32) (hi : vp_in i n) : Met l yX1_numberAt wsX1_numberAt ({ frames := 0, cells := 0, slots := 0, locals := 0 } : Room) (Pw G [.ref a, .int i] ws sz) (vp_Sl (fun r : Int64 => r = f i.toNatClampNeg)) 0 0 (fun _ => False) := by
  refine Met_pw (cc := cX1_numberAt) (maxL := 2) (ret := (some .long)) (by decide) rfl (Nat.le_of_ble_eq_true rfl) ?_
  intro p e s m below meth c ls hsz S9 hr hlk hnm w hl
  subst hsz
  replace S9 : CallFix p m c cX1_numberAt 2 s _ wsX1_numberAt RX1 := S9
  have hx := S9.1
  have hb := S9.2.1
  have hown := S9.2.2.2.1
  have hts := S9.2.2.2.2
  replace hl : lv_has ls 2 [(0, .ref a), (1, .int i)] := hl
  refine lv_aload_n hx hb dX1_numberAt_0 rfl (lv_at hl 0 rfl) ?_
  refine r_get (ref := "SpanMover$NumberRow") S9 w ha rfl (by decide +kernel) 2 (by decide) (by decide +kernel) (Or.inl rfl) rfl dX1_numberAt_1 ?_
  refine lv_iload_n hx hb dX1_numberAt_4 rfl (lv_at hl 1 rfl) ?_
  refine r_lald S9 w hb0 hi dX1_numberAt_5 ?_
  refine lv_topl (fun v1 ev1 => ?_)
  exact e_l S9 hr hlk (ev1) dX1_numberAt_6

set_option maxHeartbeats 4000000 in
set_option maxRecDepth 100000 in
theorem c_objectAt (l : Launch) {G : Gt} {ws : va_W} (sz : Nat) {n k a b : Nat} (ha : hp ws a (.inr (1, [.int (nI n), .int (nI k), .ref b]))) {f : Nat → Option Nat} (hb0 : hp ws b (aT G n f)) (i : Int32) (hi : vp_in i n) : Met l yX2_objectAt wsX2_objectAt ({ frames := 0, cells := 0, slots := 0, locals := 0 } : Room) (Pw G [.ref a, .int i] ws sz) (va_Sq (fun r : Option Nat => r = f i.toNatClampNeg)) 0 0 (fun _ => False) := by
  refine Met_pw (cc := cX2_objectAt) (maxL := 2) (ret := (some (.object "SpanMover$Item"))) (by decide) rfl (Nat.le_of_ble_eq_true rfl) ?_
  intro p e s m below meth c ls hsz S9 hr hlk hnm w hl
  subst hsz
  replace S9 : CallFix p m c cX2_objectAt 2 s _ wsX2_objectAt RX2 := S9
  have hx := S9.1
  have hb := S9.2.1
  have hown := S9.2.2.2.1
  have hts := S9.2.2.2.2
  replace hl : lv_has ls 2 [(0, .ref a), (1, .int i)] := hl
  refine lv_aload_n hx hb dX2_objectAt_0 rfl (lv_at hl 0 rfl) ?_
  refine r_get (ref := "SpanMover$ObjectRow") S9 w ha rfl (by decide +kernel) 2 (by decide) (by decide +kernel) (Or.inl rfl) rfl dX2_objectAt_1 ?_
  refine lv_iload_n hx hb dX2_objectAt_4 rfl (lv_at hl 1 rfl) ?_
  refine r_aald S9 w hb0 hi dX2_objectAt_5 ?_
  exact e_q (r := (f) i.toNatClampNeg) S9 hr hlk (rfl) dX2_objectAt_6

set_option maxHeartbeats 4000000 in
set_option maxRecDepth 100000 in
theorem c_narrowed (l : Launch) {G : Gt} {ws : va_W} (sz : Nat) {n k a b : Nat} {dk : Int32} {kd : Int64} (ha : hp ws a (.inr (0, [.int (nI n), .int (nI k), .ref b, .int dk, .long kd]))) (hk : k ≤ 3) (v : Int64) : Met l yX1_narrowed wsX1_narrowed ({ frames := 0, cells := 0, slots := 0, locals := 0 } : Room) (Pw G [.ref a, .long v] ws sz) (vp_Sl (fun r : Int64 => r = narK k v)) 0 0 (fun _ => False) := by
  refine Met_pw (cc := cX1_narrowed) (maxL := 3) (ret := (some .long)) (by decide) rfl (Nat.le_of_ble_eq_true rfl) ?_
  intro p e s m below meth c ls hsz S9 hr hlk hnm w hl
  subst hsz
  replace S9 : CallFix p m c cX1_narrowed 3 s _ wsX1_narrowed RX1 := S9
  have hx := S9.1
  have hb := S9.2.1
  have hown := S9.2.2.2.1
  have hts := S9.2.2.2.2
  replace hl : lv_has ls 3 [(0, .ref a), (1, .long v)] := hl
  refine lv_aload_n hx hb dX1_narrowed_0 rfl (lv_at hl 0 rfl) ?_
  refine r_get (ref := "SpanMover$NumberRow") S9 w ha rfl (by decide +kernel) 1 (by decide) (by decide +kernel) (Or.inr (by decide +kernel)) rfl dX1_narrowed_1 ?_
  rcases (show k = 0 ∨ k = 1 ∨ k = 2 ∨ k = 3 by omega) with rfl | rfl | rfl | rfl
  · refine lv_tableIn (off := 32) (tgt := 36) hx hb dX1_narrowed_4 (by decide) (by decide) (by decide) (by decide) ?_
    refine lv_lload_n hx hb dX1_narrowed_36 rfl (lv_at hl 1 rfl) ?_
    obtain ⟨v1, ev1⟩ : ∃ z : Int32, Int64.toInt32 v = z := ⟨_, rfl⟩
    refine lv_l2i (v := v1) hx hb dX1_narrowed_37 ev1 ?_
    obtain ⟨v2, ev2⟩ : ∃ z : Int64, Int32.toInt64 v1 = z := ⟨_, rfl⟩
    refine lv_i2l (v := v2) hx hb dX1_narrowed_38 ev2 ?_
    exact e_l S9 hr hlk (by subst_vars; rfl) dX1_narrowed_39
  · refine lv_tableIn (off := 45) (tgt := 49) hx hb dX1_narrowed_4 (by decide) (by decide) (by decide) (by decide) ?_
    refine lv_lload_n hx hb dX1_narrowed_49 rfl (lv_at hl 1 rfl) ?_
    exact e_l S9 hr hlk (by subst_vars; rfl) dX1_narrowed_50
  · refine lv_tableIn (off := 36) (tgt := 40) hx hb dX1_narrowed_4 (by decide) (by decide) (by decide) (by decide) ?_
    refine lv_lload_n hx hb dX1_narrowed_40 rfl (lv_at hl 1 rfl) ?_
    obtain ⟨v3, ev3⟩ : ∃ z : Int32, Int64.toInt32 v = z := ⟨_, rfl⟩
    refine lv_l2i (v := v3) hx hb dX1_narrowed_41 ev3 ?_
    obtain ⟨v4, ev4⟩ : ∃ z : Int32, (Int32.toInt8 v3).toInt32 = z := ⟨_, rfl⟩
    refine lv_i2b (v := v4) hx hb dX1_narrowed_42 ev4 ?_
    obtain ⟨v5, ev5⟩ : ∃ z : Int64, Int32.toInt64 v4 = z := ⟨_, rfl⟩
    refine lv_i2l (v := v5) hx hb dX1_narrowed_43 ev5 ?_
    exact e_l S9 hr hlk (by subst_vars; rfl) dX1_narrowed_44
  · refine lv_tableIn (off := 41) (tgt := 45) hx hb dX1_narrowed_4 (by decide) (by decide) (by decide) (by decide) ?_
    refine lv_lload_n hx hb dX1_narrowed_45 rfl (lv_at hl 1 rfl) ?_
    refine lv_l2d hx hb dX1_narrowed_46 ?_
    refine lv_d2l hx hb dX1_narrowed_47 ?_
    refine lv_topl (fun v6 ev6 => ?_)
    exact e_l S9 hr hlk (by subst_vars; rfl) dX1_narrowed_48

set_option maxHeartbeats 4000000 in
set_option maxRecDepth 100000 in
theorem c_isFitFor_N (l : Launch) {G : Gt} {ws : va_W} (sz : Nat) {n k a b : Nat} (ha : hp ws a (.inr (1, [.int (nI n), .int (nI k), .ref b]))) : Met l yX2_isFitFor wsX2_isFitFor ({ frames := 0, cells := 0, slots := 0, locals := 0 } : Room) (Pw G [.ref a, .null] ws sz) (vp_Si (fun r : Int32 => r = 1)) 0 0 (fun _ => False) := by
  refine Met_pw (cc := cX2_isFitFor) (maxL := 2) (ret := (some .boolean)) (by decide) rfl (Nat.le_of_ble_eq_true rfl) ?_
  intro p e s m below meth c ls hsz S9 hr hlk hnm w hl
  subst hsz
  replace S9 : CallFix p m c cX2_isFitFor 2 s _ wsX2_isFitFor RX2 := S9
  have hx := S9.1
  have hb := S9.2.1
  have hown := S9.2.2.2.1
  have hts := S9.2.2.2.2
  replace hl : lv_has ls 2 [(0, .ref a), (1, .null)] := hl
  refine lv_aload_nN hx hb dX2_isFitFor_0 rfl (lv_at hl 1 rfl) ?_
  refine lv_ifnonnullN hx hb dX2_isFitFor_1 ?_
  refine lv_iconst (v := 1) hx hb dX2_isFitFor_4 (by decide) ?_
  exact e_z S9 hr hlk (by first | exact Or.inl rfl | exact Or.inr rfl) (rfl) dX2_isFitFor_5

set_option maxHeartbeats 4000000 in
set_option maxRecDepth 100000 in
theorem c_isFitFor_0 (l : Launch) {G : Gt} {ws : va_W} (sz : Nat) {n k a b : Nat} (ha : hp ws a (.inr (1, [.int (nI n), .int (nI k), .ref b]))) (hk : 4 ≤ k) (hk6 : k ≤ 6) {n9 k9 a9 b9 : Nat} {dk9 : Int32} {kd9 : Int64} (ha9 : hp ws a9 (.inr (0, [.int (nI n9), .int (nI k9), .ref b9, .int dk9, .long kd9]))) (h9 : k9 ≤ 3) : Met l yX2_isFitFor wsX2_isFitFor ({ frames := 0, cells := 0, slots := 0, locals := 0 } : Room) (Pw G [.ref a, .ref a9] ws sz) (vp_Si (fun r : Int32 => (fitK k k9 → r = 1) ∧ (¬ fitK k k9 → r = 0))) 0 0 (fun _ => False) := by
  refine Met_pw (cc := cX2_isFitFor) (maxL := 2) (ret := (some .boolean)) (by decide) rfl (Nat.le_of_ble_eq_true rfl) ?_
  intro p e s m below meth c ls hsz S9 hr hlk hnm w hl
  subst hsz
  replace S9 : CallFix p m c cX2_isFitFor 2 s _ wsX2_isFitFor RX2 := S9
  have hx := S9.1
  have hb := S9.2.1
  have hown := S9.2.2.2.1
  have hts := S9.2.2.2.2
  replace hl : lv_has ls 2 [(0, .ref a), (1, .ref a9)] := hl
  refine lv_aload_n hx hb dX2_isFitFor_0 rfl (lv_at hl 1 rfl) ?_
  refine lv_ifnonnull (tgt := 6) hx hb dX2_isFitFor_1 (by decide) ?_
  refine lv_aload_n hx hb dX2_isFitFor_6 rfl (lv_at hl 0 rfl) ?_
  refine r_get (ref := "SpanMover$ObjectRow") S9 w ha rfl (by decide +kernel) 1 (by decide) (by decide +kernel) (Or.inr (by decide +kernel)) rfl dX2_isFitFor_7 ?_
  rcases (show k = 4 ∨ k = 5 ∨ k = 6 by omega) with rfl | rfl | rfl
  · refine lv_lookup (off := 26) (tgt := 36) hx hb dX2_isFitFor_10 (by decide) (by decide) (by decide) ?_
    refine lv_aload_n hx hb dX2_isFitFor_36 rfl (lv_at hl 1 rfl) ?_
    refine r_get (ref := "SpanMover$Item") S9 w ha9 rfl (by decide +kernel) 1 (by decide) (by decide +kernel) (Or.inl rfl) rfl dX2_isFitFor_37 ?_
    refine lv_if_ne (tgt := 47) hx hb dX2_isFitFor_40 (by decide) (fun c_40 => ?_) (fun c_40 => ?_)
    · refine lv_iconst (v := 0) hx hb dX2_isFitFor_47 (by decide) ?_
      exact e_z S9 hr hlk (by first | exact Or.inl rfl | exact Or.inr rfl) (by have h99 : k9 ≤ 8 := (by omega); simp only [nIe0 h99, nIe7 h99, nIe8 h99] at c_40; simp [fitK]; omega) dX2_isFitFor_48
    · refine lv_iconst (v := 1) hx hb dX2_isFitFor_43 (by decide) ?_
      refine lv_goto (tgt := 48) hx hb dX2_isFitFor_44 (by decide) ?_
      exact e_z S9 hr hlk (by first | exact Or.inl rfl | exact Or.inr rfl) (by have h99 : k9 ≤ 8 := (by omega); simp only [nIe0 h99, nIe7 h99, nIe8 h99] at c_40; simp [fitK]; omega) dX2_isFitFor_48
  · refine lv_lookup (off := 39) (tgt := 49) hx hb dX2_isFitFor_10 (by decide) (by decide) (by decide) ?_
    refine lv_aload_n hx hb dX2_isFitFor_49 rfl (lv_at hl 1 rfl) ?_
    refine r_get (ref := "SpanMover$Item") S9 w ha9 rfl (by decide +kernel) 1 (by decide) (by decide +kernel) (Or.inl rfl) rfl dX2_isFitFor_50 ?_
    refine lv_bipush (v := 7) hx hb dX2_isFitFor_53 (by decide) ?_
    refine lv_icmp_eq (tgt := 67) hx hb dX2_isFitFor_55 (by decide) (fun c_55 => ?_) (fun c_55 => ?_)
    · refine lv_iconst (v := 1) hx hb dX2_isFitFor_67 (by decide) ?_
      refine lv_goto (tgt := 72) hx hb dX2_isFitFor_68 (by decide) ?_
      exact e_z S9 hr hlk (by first | exact Or.inl rfl | exact Or.inr rfl) (by have h99 : k9 ≤ 8 := (by omega); simp only [nIe0 h99, nIe7 h99, nIe8 h99] at c_55; simp [fitK]; omega) dX2_isFitFor_72
    · refine lv_aload_n hx hb dX2_isFitFor_58 rfl (lv_at hl 1 rfl) ?_
      refine r_get (ref := "SpanMover$Item") S9 w ha9 rfl (by decide +kernel) 1 (by decide) (by decide +kernel) (Or.inl rfl) rfl dX2_isFitFor_59 ?_
      refine lv_bipush (v := 8) hx hb dX2_isFitFor_62 (by decide) ?_
      refine lv_icmp_ne (tgt := 71) hx hb dX2_isFitFor_64 (by decide) (fun c_64 => ?_) (fun c_64 => ?_)
      · refine lv_iconst (v := 0) hx hb dX2_isFitFor_71 (by decide) ?_
        exact e_z S9 hr hlk (by first | exact Or.inl rfl | exact Or.inr rfl) (by have h99 : k9 ≤ 8 := (by omega); simp only [nIe0 h99, nIe7 h99, nIe8 h99] at c_55 c_64; simp [fitK]; omega) dX2_isFitFor_72
      · refine lv_iconst (v := 1) hx hb dX2_isFitFor_67 (by decide) ?_
        refine lv_goto (tgt := 72) hx hb dX2_isFitFor_68 (by decide) ?_
        exact e_z S9 hr hlk (by first | exact Or.inl rfl | exact Or.inr rfl) (by have h99 : k9 ≤ 8 := (by omega); simp only [nIe0 h99, nIe7 h99, nIe8 h99] at c_55 c_64; simp [fitK]; omega) dX2_isFitFor_72
  · refine lv_lookup (off := 63) (tgt := 73) hx hb dX2_isFitFor_10 (by decide) (by decide) (by decide) ?_
    refine lv_aload_n hx hb dX2_isFitFor_73 rfl (lv_at hl 1 rfl) ?_
    refine r_get (ref := "SpanMover$Item") S9 w ha9 rfl (by decide +kernel) 1 (by decide) (by decide +kernel) (Or.inl rfl) rfl dX2_isFitFor_74 ?_
    refine lv_bipush (v := 8) hx hb dX2_isFitFor_77 (by decide) ?_
    refine lv_icmp_ne (tgt := 86) hx hb dX2_isFitFor_79 (by decide) (fun c_79 => ?_) (fun c_79 => ?_)
    · refine lv_iconst (v := 0) hx hb dX2_isFitFor_86 (by decide) ?_
      exact e_z S9 hr hlk (by first | exact Or.inl rfl | exact Or.inr rfl) (by have h99 : k9 ≤ 8 := (by omega); simp only [nIe0 h99, nIe7 h99, nIe8 h99] at c_79; simp [fitK]; omega) dX2_isFitFor_87
    · refine lv_iconst (v := 1) hx hb dX2_isFitFor_82 (by decide) ?_
      refine lv_goto (tgt := 87) hx hb dX2_isFitFor_83 (by decide) ?_
      exact e_z S9 hr hlk (by first | exact Or.inl rfl | exact Or.inr rfl) (by have h99 : k9 ≤ 8 := (by omega); simp only [nIe0 h99, nIe7 h99, nIe8 h99] at c_79; simp [fitK]; omega) dX2_isFitFor_87

set_option maxHeartbeats 4000000 in
set_option maxRecDepth 100000 in
theorem c_isFitFor_1 (l : Launch) {G : Gt} {ws : va_W} (sz : Nat) {n k a b : Nat} (ha : hp ws a (.inr (1, [.int (nI n), .int (nI k), .ref b]))) (hk : 4 ≤ k) (hk6 : k ≤ 6) {n9 k9 a9 b9 : Nat} (ha9 : hp ws a9 (.inr (1, [.int (nI n9), .int (nI k9), .ref b9]))) (h9 : 4 ≤ k9) (h9l : k9 ≤ 6) : Met l yX2_isFitFor wsX2_isFitFor ({ frames := 0, cells := 0, slots := 0, locals := 0 } : Room) (Pw G [.ref a, .ref a9] ws sz) (vp_Si (fun r : Int32 => (fitK k k9 → r = 1) ∧ (¬ fitK k k9 → r = 0))) 0 0 (fun _ => False) := by
  refine Met_pw (cc := cX2_isFitFor) (maxL := 2) (ret := (some .boolean)) (by decide) rfl (Nat.le_of_ble_eq_true rfl) ?_
  intro p e s m below meth c ls hsz S9 hr hlk hnm w hl
  subst hsz
  replace S9 : CallFix p m c cX2_isFitFor 2 s _ wsX2_isFitFor RX2 := S9
  have hx := S9.1
  have hb := S9.2.1
  have hown := S9.2.2.2.1
  have hts := S9.2.2.2.2
  replace hl : lv_has ls 2 [(0, .ref a), (1, .ref a9)] := hl
  refine lv_aload_n hx hb dX2_isFitFor_0 rfl (lv_at hl 1 rfl) ?_
  refine lv_ifnonnull (tgt := 6) hx hb dX2_isFitFor_1 (by decide) ?_
  refine lv_aload_n hx hb dX2_isFitFor_6 rfl (lv_at hl 0 rfl) ?_
  refine r_get (ref := "SpanMover$ObjectRow") S9 w ha rfl (by decide +kernel) 1 (by decide) (by decide +kernel) (Or.inr (by decide +kernel)) rfl dX2_isFitFor_7 ?_
  rcases (show k = 4 ∨ k = 5 ∨ k = 6 by omega) with rfl | rfl | rfl
  · refine lv_lookup (off := 26) (tgt := 36) hx hb dX2_isFitFor_10 (by decide) (by decide) (by decide) ?_
    refine lv_aload_n hx hb dX2_isFitFor_36 rfl (lv_at hl 1 rfl) ?_
    refine r_get (ref := "SpanMover$Item") S9 w ha9 rfl (by decide +kernel) 1 (by decide) (by decide +kernel) (Or.inl rfl) rfl dX2_isFitFor_37 ?_
    refine lv_if_ne (tgt := 47) hx hb dX2_isFitFor_40 (by decide) (fun c_40 => ?_) (fun c_40 => ?_)
    · refine lv_iconst (v := 0) hx hb dX2_isFitFor_47 (by decide) ?_
      exact e_z S9 hr hlk (by first | exact Or.inl rfl | exact Or.inr rfl) (by have h99 : k9 ≤ 8 := (by omega); simp only [nIe0 h99, nIe7 h99, nIe8 h99] at c_40; simp [fitK]; omega) dX2_isFitFor_48
    · refine lv_iconst (v := 1) hx hb dX2_isFitFor_43 (by decide) ?_
      refine lv_goto (tgt := 48) hx hb dX2_isFitFor_44 (by decide) ?_
      exact e_z S9 hr hlk (by first | exact Or.inl rfl | exact Or.inr rfl) (by have h99 : k9 ≤ 8 := (by omega); simp only [nIe0 h99, nIe7 h99, nIe8 h99] at c_40; simp [fitK]; omega) dX2_isFitFor_48
  · refine lv_lookup (off := 39) (tgt := 49) hx hb dX2_isFitFor_10 (by decide) (by decide) (by decide) ?_
    refine lv_aload_n hx hb dX2_isFitFor_49 rfl (lv_at hl 1 rfl) ?_
    refine r_get (ref := "SpanMover$Item") S9 w ha9 rfl (by decide +kernel) 1 (by decide) (by decide +kernel) (Or.inl rfl) rfl dX2_isFitFor_50 ?_
    refine lv_bipush (v := 7) hx hb dX2_isFitFor_53 (by decide) ?_
    refine lv_icmp_eq (tgt := 67) hx hb dX2_isFitFor_55 (by decide) (fun c_55 => ?_) (fun c_55 => ?_)
    · refine lv_iconst (v := 1) hx hb dX2_isFitFor_67 (by decide) ?_
      refine lv_goto (tgt := 72) hx hb dX2_isFitFor_68 (by decide) ?_
      exact e_z S9 hr hlk (by first | exact Or.inl rfl | exact Or.inr rfl) (by have h99 : k9 ≤ 8 := (by omega); simp only [nIe0 h99, nIe7 h99, nIe8 h99] at c_55; simp [fitK]; omega) dX2_isFitFor_72
    · refine lv_aload_n hx hb dX2_isFitFor_58 rfl (lv_at hl 1 rfl) ?_
      refine r_get (ref := "SpanMover$Item") S9 w ha9 rfl (by decide +kernel) 1 (by decide) (by decide +kernel) (Or.inl rfl) rfl dX2_isFitFor_59 ?_
      refine lv_bipush (v := 8) hx hb dX2_isFitFor_62 (by decide) ?_
      refine lv_icmp_ne (tgt := 71) hx hb dX2_isFitFor_64 (by decide) (fun c_64 => ?_) (fun c_64 => ?_)
      · refine lv_iconst (v := 0) hx hb dX2_isFitFor_71 (by decide) ?_
        exact e_z S9 hr hlk (by first | exact Or.inl rfl | exact Or.inr rfl) (by have h99 : k9 ≤ 8 := (by omega); simp only [nIe0 h99, nIe7 h99, nIe8 h99] at c_55 c_64; simp [fitK]; omega) dX2_isFitFor_72
      · refine lv_iconst (v := 1) hx hb dX2_isFitFor_67 (by decide) ?_
        refine lv_goto (tgt := 72) hx hb dX2_isFitFor_68 (by decide) ?_
        exact e_z S9 hr hlk (by first | exact Or.inl rfl | exact Or.inr rfl) (by have h99 : k9 ≤ 8 := (by omega); simp only [nIe0 h99, nIe7 h99, nIe8 h99] at c_55 c_64; simp [fitK]; omega) dX2_isFitFor_72
  · refine lv_lookup (off := 63) (tgt := 73) hx hb dX2_isFitFor_10 (by decide) (by decide) (by decide) ?_
    refine lv_aload_n hx hb dX2_isFitFor_73 rfl (lv_at hl 1 rfl) ?_
    refine r_get (ref := "SpanMover$Item") S9 w ha9 rfl (by decide +kernel) 1 (by decide) (by decide +kernel) (Or.inl rfl) rfl dX2_isFitFor_74 ?_
    refine lv_bipush (v := 8) hx hb dX2_isFitFor_77 (by decide) ?_
    refine lv_icmp_ne (tgt := 86) hx hb dX2_isFitFor_79 (by decide) (fun c_79 => ?_) (fun c_79 => ?_)
    · refine lv_iconst (v := 0) hx hb dX2_isFitFor_86 (by decide) ?_
      exact e_z S9 hr hlk (by first | exact Or.inl rfl | exact Or.inr rfl) (by have h99 : k9 ≤ 8 := (by omega); simp only [nIe0 h99, nIe7 h99, nIe8 h99] at c_79; simp [fitK]; omega) dX2_isFitFor_87
    · refine lv_iconst (v := 1) hx hb dX2_isFitFor_82 (by decide) ?_
      refine lv_goto (tgt := 87) hx hb dX2_isFitFor_83 (by decide) ?_
      exact e_z S9 hr hlk (by first | exact Or.inl rfl | exact Or.inr rfl) (by have h99 : k9 ≤ 8 := (by omega); simp only [nIe0 h99, nIe7 h99, nIe8 h99] at c_79; simp [fitK]; omega) dX2_isFitFor_87

set_option maxHeartbeats 4000000 in
set_option maxRecDepth 100000 in
theorem c_isFitFor_2 (l : Launch) {G : Gt} {ws : va_W} (sz : Nat) {n k a b : Nat} (ha : hp ws a (.inr (1, [.int (nI n), .int (nI k), .ref b]))) (hk : 4 ≤ k) (hk6 : k ≤ 6) {k9 a9 : Nat} {v9 : Int32} (ha9 : hp ws a9 (.inr (2, [.int (nI k9), .int v9]))) (h9 : 7 ≤ k9) (h9l : k9 ≤ 8) : Met l yX2_isFitFor wsX2_isFitFor ({ frames := 0, cells := 0, slots := 0, locals := 0 } : Room) (Pw G [.ref a, .ref a9] ws sz) (vp_Si (fun r : Int32 => (fitK k k9 → r = 1) ∧ (¬ fitK k k9 → r = 0))) 0 0 (fun _ => False) := by
  refine Met_pw (cc := cX2_isFitFor) (maxL := 2) (ret := (some .boolean)) (by decide) rfl (Nat.le_of_ble_eq_true rfl) ?_
  intro p e s m below meth c ls hsz S9 hr hlk hnm w hl
  subst hsz
  replace S9 : CallFix p m c cX2_isFitFor 2 s _ wsX2_isFitFor RX2 := S9
  have hx := S9.1
  have hb := S9.2.1
  have hown := S9.2.2.2.1
  have hts := S9.2.2.2.2
  replace hl : lv_has ls 2 [(0, .ref a), (1, .ref a9)] := hl
  refine lv_aload_n hx hb dX2_isFitFor_0 rfl (lv_at hl 1 rfl) ?_
  refine lv_ifnonnull (tgt := 6) hx hb dX2_isFitFor_1 (by decide) ?_
  refine lv_aload_n hx hb dX2_isFitFor_6 rfl (lv_at hl 0 rfl) ?_
  refine r_get (ref := "SpanMover$ObjectRow") S9 w ha rfl (by decide +kernel) 1 (by decide) (by decide +kernel) (Or.inr (by decide +kernel)) rfl dX2_isFitFor_7 ?_
  rcases (show k = 4 ∨ k = 5 ∨ k = 6 by omega) with rfl | rfl | rfl
  · refine lv_lookup (off := 26) (tgt := 36) hx hb dX2_isFitFor_10 (by decide) (by decide) (by decide) ?_
    refine lv_aload_n hx hb dX2_isFitFor_36 rfl (lv_at hl 1 rfl) ?_
    refine r_get (ref := "SpanMover$Item") S9 w ha9 rfl (by decide +kernel) 0 (by decide) (by decide +kernel) (Or.inl rfl) rfl dX2_isFitFor_37 ?_
    refine lv_if_ne (tgt := 47) hx hb dX2_isFitFor_40 (by decide) (fun c_40 => ?_) (fun c_40 => ?_)
    · refine lv_iconst (v := 0) hx hb dX2_isFitFor_47 (by decide) ?_
      exact e_z S9 hr hlk (by first | exact Or.inl rfl | exact Or.inr rfl) (by have h99 : k9 ≤ 8 := (by omega); simp only [nIe0 h99, nIe7 h99, nIe8 h99] at c_40; simp [fitK]; omega) dX2_isFitFor_48
    · refine lv_iconst (v := 1) hx hb dX2_isFitFor_43 (by decide) ?_
      refine lv_goto (tgt := 48) hx hb dX2_isFitFor_44 (by decide) ?_
      exact e_z S9 hr hlk (by first | exact Or.inl rfl | exact Or.inr rfl) (by have h99 : k9 ≤ 8 := (by omega); simp only [nIe0 h99, nIe7 h99, nIe8 h99] at c_40; simp [fitK]; omega) dX2_isFitFor_48
  · refine lv_lookup (off := 39) (tgt := 49) hx hb dX2_isFitFor_10 (by decide) (by decide) (by decide) ?_
    refine lv_aload_n hx hb dX2_isFitFor_49 rfl (lv_at hl 1 rfl) ?_
    refine r_get (ref := "SpanMover$Item") S9 w ha9 rfl (by decide +kernel) 0 (by decide) (by decide +kernel) (Or.inl rfl) rfl dX2_isFitFor_50 ?_
    refine lv_bipush (v := 7) hx hb dX2_isFitFor_53 (by decide) ?_
    refine lv_icmp_eq (tgt := 67) hx hb dX2_isFitFor_55 (by decide) (fun c_55 => ?_) (fun c_55 => ?_)
    · refine lv_iconst (v := 1) hx hb dX2_isFitFor_67 (by decide) ?_
      refine lv_goto (tgt := 72) hx hb dX2_isFitFor_68 (by decide) ?_
      exact e_z S9 hr hlk (by first | exact Or.inl rfl | exact Or.inr rfl) (by have h99 : k9 ≤ 8 := (by omega); simp only [nIe0 h99, nIe7 h99, nIe8 h99] at c_55; simp [fitK]; omega) dX2_isFitFor_72
    · refine lv_aload_n hx hb dX2_isFitFor_58 rfl (lv_at hl 1 rfl) ?_
      refine r_get (ref := "SpanMover$Item") S9 w ha9 rfl (by decide +kernel) 0 (by decide) (by decide +kernel) (Or.inl rfl) rfl dX2_isFitFor_59 ?_
      refine lv_bipush (v := 8) hx hb dX2_isFitFor_62 (by decide) ?_
      refine lv_icmp_ne (tgt := 71) hx hb dX2_isFitFor_64 (by decide) (fun c_64 => ?_) (fun c_64 => ?_)
      · refine lv_iconst (v := 0) hx hb dX2_isFitFor_71 (by decide) ?_
        exact e_z S9 hr hlk (by first | exact Or.inl rfl | exact Or.inr rfl) (by have h99 : k9 ≤ 8 := (by omega); simp only [nIe0 h99, nIe7 h99, nIe8 h99] at c_55 c_64; simp [fitK]; omega) dX2_isFitFor_72
      · refine lv_iconst (v := 1) hx hb dX2_isFitFor_67 (by decide) ?_
        refine lv_goto (tgt := 72) hx hb dX2_isFitFor_68 (by decide) ?_
        exact e_z S9 hr hlk (by first | exact Or.inl rfl | exact Or.inr rfl) (by have h99 : k9 ≤ 8 := (by omega); simp only [nIe0 h99, nIe7 h99, nIe8 h99] at c_55 c_64; simp [fitK]; omega) dX2_isFitFor_72
  · refine lv_lookup (off := 63) (tgt := 73) hx hb dX2_isFitFor_10 (by decide) (by decide) (by decide) ?_
    refine lv_aload_n hx hb dX2_isFitFor_73 rfl (lv_at hl 1 rfl) ?_
    refine r_get (ref := "SpanMover$Item") S9 w ha9 rfl (by decide +kernel) 0 (by decide) (by decide +kernel) (Or.inl rfl) rfl dX2_isFitFor_74 ?_
    refine lv_bipush (v := 8) hx hb dX2_isFitFor_77 (by decide) ?_
    refine lv_icmp_ne (tgt := 86) hx hb dX2_isFitFor_79 (by decide) (fun c_79 => ?_) (fun c_79 => ?_)
    · refine lv_iconst (v := 0) hx hb dX2_isFitFor_86 (by decide) ?_
      exact e_z S9 hr hlk (by first | exact Or.inl rfl | exact Or.inr rfl) (by have h99 : k9 ≤ 8 := (by omega); simp only [nIe0 h99, nIe7 h99, nIe8 h99] at c_79; simp [fitK]; omega) dX2_isFitFor_87
    · refine lv_iconst (v := 1) hx hb dX2_isFitFor_82 (by decide) ?_
      refine lv_goto (tgt := 87) hx hb dX2_isFitFor_83 (by decide) ?_
      exact e_z S9 hr hlk (by first | exact Or.inl rfl | exact Or.inr rfl) (by have h99 : k9 ≤ 8 := (by omega); simp only [nIe0 h99, nIe7 h99, nIe8 h99] at c_79; simp [fitK]; omega) dX2_isFitFor_87

set_option maxHeartbeats 4000000 in
set_option maxRecDepth 100000 in
theorem c_toldAs_N (l : Launch) {G : Gt} {ws : va_W} (sz : Nat)  : Met l yX5_toldAs wsX5_toldAs ({ frames := 0, cells := 0, slots := 0, locals := 0 } : Room) (Pw G [.null] ws sz) (vp_Sl (fun r : Int64 => r = told none)) 0 0 (fun _ => False) := by
  refine Met_pw (cc := cX5_toldAs) (maxL := 2) (ret := (some .long)) (by decide) rfl (Nat.le_of_ble_eq_true rfl) ?_
  intro p e s m below meth c ls hsz S9 hr hlk hnm w hl
  subst hsz
  replace S9 : CallFix p m c cX5_toldAs 2 s _ wsX5_toldAs RX5 := S9
  have hx := S9.1
  have hb := S9.2.1
  have hown := S9.2.2.2.1
  have hts := S9.2.2.2.2
  replace hl : lv_has ls 2 [(0, .null)] := hl
  refine lv_aload_nN hx hb dX5_toldAs_0 rfl (lv_at hl 0 rfl) ?_
  refine lv_instN hx hb dX5_toldAs_1 ?_
  refine lv_if_eq (tgt := 32) hx hb dX5_toldAs_4 (by decide) (fun c_4 => ?_) (fun c_4 => absurd c_4 (by decide))
  refine lv_aload_nN hx hb dX5_toldAs_32 rfl (lv_at hl 0 rfl) ?_
  refine lv_instN hx hb dX5_toldAs_33 ?_
  refine lv_if_eq (tgt := 50) hx hb dX5_toldAs_36 (by decide) (fun c_36 => ?_) (fun c_36 => absurd c_36 (by decide))
  refine lv_ldc2 (v := (-1)) hx hb hown (hts (.constantLong RX5 141 (-1)) (by decide +kernel)) dX5_toldAs_50 ?_
  exact e_l S9 hr hlk (by subst_vars; rfl) dX5_toldAs_53

set_option maxHeartbeats 4000000 in
set_option maxRecDepth 100000 in
theorem c_toldAs_0 (l : Launch) {G : Gt} {ws : va_W} (sz : Nat) {n k a b : Nat} {dk : Int32} {kd : Int64} (ha : hp ws a (.inr (0, [.int (nI n), .int (nI k), .ref b, .int dk, .long kd]))) : Met l yX5_toldAs wsX5_toldAs ({ frames := 0, cells := 0, slots := 0, locals := 0 } : Room) (Pw G [.ref a] ws sz) (vp_Sl (fun r : Int64 => r = (nI n).toInt64)) 0 0 (fun _ => False) := by
  refine Met_pw (cc := cX5_toldAs) (maxL := 2) (ret := (some .long)) (by decide) rfl (Nat.le_of_ble_eq_true rfl) ?_
  intro p e s m below meth c ls hsz S9 hr hlk hnm w hl
  subst hsz
  replace S9 : CallFix p m c cX5_toldAs 2 s _ wsX5_toldAs RX5 := S9
  have hx := S9.1
  have hb := S9.2.1
  have hown := S9.2.2.2.1
  have hts := S9.2.2.2.2
  replace hl : lv_has ls 2 [(0, .ref a)] := hl
  refine lv_aload_n hx hb dX5_toldAs_0 rfl (lv_at hl 0 rfl) ?_
  refine r_inst S9 w ha (by decide) 2 (by decide) (by decide +kernel) (v := 0) rfl dX5_toldAs_1 ?_
  refine lv_if_eq (tgt := 32) hx hb dX5_toldAs_4 (by decide) (fun c_4 => ?_) (fun c_4 => absurd c_4 (by decide))
  refine lv_aload_n hx hb dX5_toldAs_32 rfl (lv_at hl 0 rfl) ?_
  refine r_inst S9 w ha (by decide) 3 (by decide) (by decide +kernel) (v := 1) rfl dX5_toldAs_33 ?_
  refine lv_if_eq (tgt := 50) hx hb dX5_toldAs_36 (by decide) (fun c_36 => absurd c_36 (by decide)) (fun c_36 => ?_)
  refine lv_aload_n hx hb dX5_toldAs_39 rfl (lv_at hl 0 rfl) ?_
  refine r_cast S9 w ha (by decide) 3 (by decide) rfl (by decide +kernel) dX5_toldAs_40 ?_
  refine lv_astore_n (lv' := [(1, .ref a), (0, .ref a)]) hx hb dX5_toldAs_43 rfl hl (by decide) rfl (fun ls hl => ?_)
  refine lv_aload_n hx hb dX5_toldAs_44 rfl (lv_at hl 0 rfl) ?_
  refine r_get (ref := "SpanMover$Row") S9 w ha rfl (by decide +kernel) 0 (by decide) (by decide +kernel) (Or.inl rfl) rfl dX5_toldAs_45 ?_
  obtain ⟨v1, ev1⟩ : ∃ z : Int64, Int32.toInt64 (nI n) = z := ⟨_, rfl⟩
  refine lv_i2l (v := v1) hx hb dX5_toldAs_48 ev1 ?_
  exact e_l S9 hr hlk (by subst_vars; rfl) dX5_toldAs_49

set_option maxHeartbeats 4000000 in
set_option maxRecDepth 100000 in
theorem c_toldAs_1 (l : Launch) {G : Gt} {ws : va_W} (sz : Nat) {n k a b : Nat} (ha : hp ws a (.inr (1, [.int (nI n), .int (nI k), .ref b]))) : Met l yX5_toldAs wsX5_toldAs ({ frames := 0, cells := 0, slots := 0, locals := 0 } : Room) (Pw G [.ref a] ws sz) (vp_Sl (fun r : Int64 => r = (nI n).toInt64)) 0 0 (fun _ => False) := by
  refine Met_pw (cc := cX5_toldAs) (maxL := 2) (ret := (some .long)) (by decide) rfl (Nat.le_of_ble_eq_true rfl) ?_
  intro p e s m below meth c ls hsz S9 hr hlk hnm w hl
  subst hsz
  replace S9 : CallFix p m c cX5_toldAs 2 s _ wsX5_toldAs RX5 := S9
  have hx := S9.1
  have hb := S9.2.1
  have hown := S9.2.2.2.1
  have hts := S9.2.2.2.2
  replace hl : lv_has ls 2 [(0, .ref a)] := hl
  refine lv_aload_n hx hb dX5_toldAs_0 rfl (lv_at hl 0 rfl) ?_
  refine r_inst S9 w ha (by decide) 2 (by decide) (by decide +kernel) (v := 0) rfl dX5_toldAs_1 ?_
  refine lv_if_eq (tgt := 32) hx hb dX5_toldAs_4 (by decide) (fun c_4 => ?_) (fun c_4 => absurd c_4 (by decide))
  refine lv_aload_n hx hb dX5_toldAs_32 rfl (lv_at hl 0 rfl) ?_
  refine r_inst S9 w ha (by decide) 3 (by decide) (by decide +kernel) (v := 1) rfl dX5_toldAs_33 ?_
  refine lv_if_eq (tgt := 50) hx hb dX5_toldAs_36 (by decide) (fun c_36 => absurd c_36 (by decide)) (fun c_36 => ?_)
  refine lv_aload_n hx hb dX5_toldAs_39 rfl (lv_at hl 0 rfl) ?_
  refine r_cast S9 w ha (by decide) 3 (by decide) rfl (by decide +kernel) dX5_toldAs_40 ?_
  refine lv_astore_n (lv' := [(1, .ref a), (0, .ref a)]) hx hb dX5_toldAs_43 rfl hl (by decide) rfl (fun ls hl => ?_)
  refine lv_aload_n hx hb dX5_toldAs_44 rfl (lv_at hl 0 rfl) ?_
  refine r_get (ref := "SpanMover$Row") S9 w ha rfl (by decide +kernel) 0 (by decide) (by decide +kernel) (Or.inl rfl) rfl dX5_toldAs_45 ?_
  obtain ⟨v1, ev1⟩ : ∃ z : Int64, Int32.toInt64 (nI n) = z := ⟨_, rfl⟩
  refine lv_i2l (v := v1) hx hb dX5_toldAs_48 ev1 ?_
  exact e_l S9 hr hlk (by subst_vars; rfl) dX5_toldAs_49

set_option maxHeartbeats 4000000 in
set_option maxRecDepth 100000 in
theorem c_toldAs_2 (l : Launch) {G : Gt} {ws : va_W} (sz : Nat) {k a : Nat} {v : Int32} (ha : hp ws a (.inr (2, [.int (nI k), .int v]))) : Met l yX5_toldAs wsX5_toldAs ({ frames := 0, cells := 0, slots := 0, locals := 0 } : Room) (Pw G [.ref a] ws sz) (vp_Sl (fun r : Int64 => r = (nI k).toInt64 * 4294967296 + (v.toInt64 &&& 4294967295))) 0 0 (fun _ => False) := by
  refine Met_pw (cc := cX5_toldAs) (maxL := 2) (ret := (some .long)) (by decide) rfl (Nat.le_of_ble_eq_true rfl) ?_
  intro p e s m below meth c ls hsz S9 hr hlk hnm w hl
  subst hsz
  replace S9 : CallFix p m c cX5_toldAs 2 s _ wsX5_toldAs RX5 := S9
  have hx := S9.1
  have hb := S9.2.1
  have hown := S9.2.2.2.1
  have hts := S9.2.2.2.2
  replace hl : lv_has ls 2 [(0, .ref a)] := hl
  refine lv_aload_n hx hb dX5_toldAs_0 rfl (lv_at hl 0 rfl) ?_
  refine r_inst S9 w ha (by decide) 2 (by decide) (by decide +kernel) (v := 1) rfl dX5_toldAs_1 ?_
  refine lv_if_eq (tgt := 32) hx hb dX5_toldAs_4 (by decide) (fun c_4 => absurd c_4 (by decide)) (fun c_4 => ?_)
  refine lv_aload_n hx hb dX5_toldAs_7 rfl (lv_at hl 0 rfl) ?_
  refine r_cast S9 w ha (by decide) 2 (by decide) rfl (by decide +kernel) dX5_toldAs_8 ?_
  refine lv_astore_n (lv' := [(1, .ref a), (0, .ref a)]) hx hb dX5_toldAs_11 rfl hl (by decide) rfl (fun ls hl => ?_)
  refine lv_aload_n hx hb dX5_toldAs_12 rfl (lv_at hl 0 rfl) ?_
  refine r_get (ref := "SpanMover$Thing") S9 w ha rfl (by decide +kernel) 0 (by decide) (by decide +kernel) (Or.inr (by decide +kernel)) rfl dX5_toldAs_13 ?_
  obtain ⟨v1, ev1⟩ : ∃ z : Int64, Int32.toInt64 (nI k) = z := ⟨_, rfl⟩
  refine lv_i2l (v := v1) hx hb dX5_toldAs_16 ev1 ?_
  refine lv_ldc2 (v := 4294967296) hx hb hown (hts (.constantLong RX5 137 (4294967296)) (by decide +kernel)) dX5_toldAs_17 ?_
  refine lv_lmul hx hb dX5_toldAs_20 ?_
  refine lv_topl (fun v2 ev2 => ?_)
  refine lv_aload_n hx hb dX5_toldAs_21 rfl (lv_at hl 0 rfl) ?_
  refine r_get (ref := "SpanMover$Thing") S9 w ha rfl (by decide +kernel) 1 (by decide) (by decide +kernel) (Or.inl rfl) rfl dX5_toldAs_22 ?_
  obtain ⟨v3, ev3⟩ : ∃ z : Int64, Int32.toInt64 v = z := ⟨_, rfl⟩
  refine lv_i2l (v := v3) hx hb dX5_toldAs_25 ev3 ?_
  refine lv_ldc2 (v := 4294967295) hx hb hown (hts (.constantLong RX5 139 (4294967295)) (by decide +kernel)) dX5_toldAs_26 ?_
  refine lv_land hx hb dX5_toldAs_29 ?_
  refine lv_topl (fun v4 ev4 => ?_)
  refine lv_ladd hx hb dX5_toldAs_30 ?_
  refine lv_topl (fun v5 ev5 => ?_)
  exact e_l S9 hr hlk (by subst_vars; rfl) dX5_toldAs_31

set_option maxHeartbeats 4000000 in
set_option maxRecDepth 100000 in
theorem c_refusalAt_N (l : Launch) {G : Gt} {ws : va_W} (sz : Nat) (i lo hi : Int32) : Met l yX5_refusalAt wsX5_refusalAt ({ frames := 1, cells := 0, slots := 0, locals := 21 } : Room) (Pw G [.null, .int i, .int lo, .int hi] ws sz) (vp_Si (fun r : Int32 => r = 1)) 0 0 (fun _ => False) := by
  refine Met_pw (cc := cX5_refusalAt) (maxL := 5) (ret := (some .int)) (by decide) rfl (Nat.le_of_ble_eq_true rfl) ?_
  intro p e s m below meth c ls hsz S9 hr hlk hnm w hl
  subst hsz
  replace S9 : CallFix p m c cX5_refusalAt 5 s _ wsX5_refusalAt RX5 := S9
  have hx := S9.1
  have hb := S9.2.1
  have hown := S9.2.2.2.1
  have hts := S9.2.2.2.2
  replace hl : lv_has ls 5 [(0, .null), (1, .int i), (2, .int lo), (3, .int hi)] := hl
  refine lv_aload_nN hx hb dX5_refusalAt_0 rfl (lv_at hl 0 rfl) ?_
  refine lv_ifnonnullN hx hb dX5_refusalAt_1 ?_
  refine lv_iconst (v := 1) hx hb dX5_refusalAt_4 (by decide) ?_
  exact e_i S9 hr hlk (rfl) dX5_refusalAt_5

set_option maxHeartbeats 4000000 in
set_option maxRecDepth 100000 in
theorem c_refusalAt_0 (l : Launch) {G : Gt} {ws : va_W} (sz : Nat) {n k a b : Nat} {dk : Int32} {kd : Int64} (ha : hp ws a (.inr (0, [.int (nI n), .int (nI k), .ref b, .int dk, .long kd]))) (i lo hi : Int32) : Met l yX5_refusalAt wsX5_refusalAt ({ frames := 1, cells := 0, slots := 0, locals := 21 } : Room) (Pw G [.ref a, .int i, .int lo, .int hi] ws sz) (vp_Si (fun r : Int32 => r = if nI k < lo then 3 else if nI k ≤ hi then (if inE n i then 0 else 4) else 3)) 0 0 (fun _ => False) := by
  refine Met_pw (cc := cX5_refusalAt) (maxL := 5) (ret := (some .int)) (by decide) rfl (Nat.le_of_ble_eq_true rfl) ?_
  intro p e s m below meth c ls hsz S9 hr hlk hnm w hl
  subst hsz
  replace S9 : CallFix p m c cX5_refusalAt 5 s _ wsX5_refusalAt RX5 := S9
  have hx := S9.1
  have hb := S9.2.1
  have hown := S9.2.2.2.1
  have hts := S9.2.2.2.2
  replace hl : lv_has ls 5 [(0, .ref a), (1, .int i), (2, .int lo), (3, .int hi)] := hl
  refine lv_aload_n hx hb dX5_refusalAt_0 rfl (lv_at hl 0 rfl) ?_
  refine lv_ifnonnull (tgt := 6) hx hb dX5_refusalAt_1 (by decide) ?_
  refine lv_aload_n hx hb dX5_refusalAt_6 rfl (lv_at hl 0 rfl) ?_
  refine r_inst S9 w ha (by decide) 3 (by decide) (by decide +kernel) (v := 1) rfl dX5_refusalAt_7 ?_
  refine lv_if_eq (tgt := 22) hx hb dX5_refusalAt_10 (by decide) (fun c_10 => absurd c_10 (by decide)) (fun c_10 => ?_)
  refine lv_aload_n hx hb dX5_refusalAt_13 rfl (lv_at hl 0 rfl) ?_
  refine r_cast S9 w ha (by decide) 3 (by decide) rfl (by decide +kernel) dX5_refusalAt_14 ?_
  refine lv_astore (lv' := [(4, .ref a), (0, .ref a), (1, .int i), (2, .int lo), (3, .int hi)]) hx hb dX5_refusalAt_17 hl (by decide) rfl (fun ls hl => ?_)
  refine lv_goto (tgt := 24) hx hb dX5_refusalAt_19 (by decide) ?_
  refine lv_aload hx hb dX5_refusalAt_24 (lv_at hl 0 rfl) ?_
  refine r_get (ref := "SpanMover$Row") S9 w ha rfl (by decide +kernel) 1 (by decide) (by decide +kernel) (Or.inr (by decide +kernel)) rfl dX5_refusalAt_26 ?_
  refine lv_iload_n hx hb dX5_refusalAt_29 rfl (lv_at hl 3 rfl) ?_
  refine lv_icmp_lt (tgt := 42) hx hb dX5_refusalAt_30 (by decide) (fun c_30 => ?_) (fun c_30 => ?_)
  · refine lv_iconst (v := 3) hx hb dX5_refusalAt_42 (by decide) ?_
    exact e_i S9 hr hlk (by simp [c_30]) dX5_refusalAt_43
  · refine lv_aload hx hb dX5_refusalAt_33 (lv_at hl 0 rfl) ?_
    refine r_get (ref := "SpanMover$Row") S9 w ha rfl (by decide +kernel) 1 (by decide) (by decide +kernel) (Or.inr (by decide +kernel)) rfl dX5_refusalAt_35 ?_
    refine lv_iload_n hx hb dX5_refusalAt_38 rfl (lv_at hl 4 rfl) ?_
    refine lv_icmp_le (tgt := 44) hx hb dX5_refusalAt_39 (by decide) (fun c_39 => ?_) (fun c_39 => ?_)
    · refine lv_aload hx hb dX5_refusalAt_44 (lv_at hl 0 rfl) ?_
      refine lv_iload_n hx hb dX5_refusalAt_46 rfl (lv_at hl 2 rfl) ?_
      refine k_ui S9 w (c_hasElement_0 l _ ha i) ha rfl (va_cwU 1 hts gX5_refusalAt_X3_hasElement_u133X1 rfl rfl rfl rfl (by decide +kernel) ⟨Nat.le_of_ble_eq_true rfl, Nat.le_of_ble_eq_true rfl⟩) rfl hl.1 rfl (Nat.le_of_ble_eq_true rfl) dX5_refusalAt_47 ⟨Nat.le_of_ble_eq_true rfl, Nat.le_of_ble_eq_true rfl⟩ (fun v7 e7 => ?_)
      refine lv_if_eq (tgt := 57) hx hb dX5_refusalAt_50 (by decide) (fun c_50 => ?_) (fun c_50 => ?_)
      · refine lv_iconst (v := 4) hx hb dX5_refusalAt_57 (by decide) ?_
        exact e_i S9 hr hlk (by rw [e7] at c_50; by_cases hE : inE n i <;> simp [hE] at c_50 <;> simp [c_30, c_39, hE]) dX5_refusalAt_58
      · refine lv_iconst (v := 0) hx hb dX5_refusalAt_53 (by decide) ?_
        refine lv_goto (tgt := 58) hx hb dX5_refusalAt_54 (by decide) ?_
        exact e_i S9 hr hlk (by rw [e7] at c_50; by_cases hE : inE n i <;> simp [hE] at c_50 <;> simp [c_30, c_39, hE]) dX5_refusalAt_58
    · refine lv_iconst (v := 3) hx hb dX5_refusalAt_42 (by decide) ?_
      exact e_i S9 hr hlk (by simp [c_30, c_39]) dX5_refusalAt_43

set_option maxHeartbeats 4000000 in
set_option maxRecDepth 100000 in
theorem c_refusalAt_1 (l : Launch) {G : Gt} {ws : va_W} (sz : Nat) {n k a b : Nat} (ha : hp ws a (.inr (1, [.int (nI n), .int (nI k), .ref b]))) (i lo hi : Int32) : Met l yX5_refusalAt wsX5_refusalAt ({ frames := 1, cells := 0, slots := 0, locals := 21 } : Room) (Pw G [.ref a, .int i, .int lo, .int hi] ws sz) (vp_Si (fun r : Int32 => r = if nI k < lo then 3 else if nI k ≤ hi then (if inE n i then 0 else 4) else 3)) 0 0 (fun _ => False) := by
  refine Met_pw (cc := cX5_refusalAt) (maxL := 5) (ret := (some .int)) (by decide) rfl (Nat.le_of_ble_eq_true rfl) ?_
  intro p e s m below meth c ls hsz S9 hr hlk hnm w hl
  subst hsz
  replace S9 : CallFix p m c cX5_refusalAt 5 s _ wsX5_refusalAt RX5 := S9
  have hx := S9.1
  have hb := S9.2.1
  have hown := S9.2.2.2.1
  have hts := S9.2.2.2.2
  replace hl : lv_has ls 5 [(0, .ref a), (1, .int i), (2, .int lo), (3, .int hi)] := hl
  refine lv_aload_n hx hb dX5_refusalAt_0 rfl (lv_at hl 0 rfl) ?_
  refine lv_ifnonnull (tgt := 6) hx hb dX5_refusalAt_1 (by decide) ?_
  refine lv_aload_n hx hb dX5_refusalAt_6 rfl (lv_at hl 0 rfl) ?_
  refine r_inst S9 w ha (by decide) 3 (by decide) (by decide +kernel) (v := 1) rfl dX5_refusalAt_7 ?_
  refine lv_if_eq (tgt := 22) hx hb dX5_refusalAt_10 (by decide) (fun c_10 => absurd c_10 (by decide)) (fun c_10 => ?_)
  refine lv_aload_n hx hb dX5_refusalAt_13 rfl (lv_at hl 0 rfl) ?_
  refine r_cast S9 w ha (by decide) 3 (by decide) rfl (by decide +kernel) dX5_refusalAt_14 ?_
  refine lv_astore (lv' := [(4, .ref a), (0, .ref a), (1, .int i), (2, .int lo), (3, .int hi)]) hx hb dX5_refusalAt_17 hl (by decide) rfl (fun ls hl => ?_)
  refine lv_goto (tgt := 24) hx hb dX5_refusalAt_19 (by decide) ?_
  refine lv_aload hx hb dX5_refusalAt_24 (lv_at hl 0 rfl) ?_
  refine r_get (ref := "SpanMover$Row") S9 w ha rfl (by decide +kernel) 1 (by decide) (by decide +kernel) (Or.inr (by decide +kernel)) rfl dX5_refusalAt_26 ?_
  refine lv_iload_n hx hb dX5_refusalAt_29 rfl (lv_at hl 3 rfl) ?_
  refine lv_icmp_lt (tgt := 42) hx hb dX5_refusalAt_30 (by decide) (fun c_30 => ?_) (fun c_30 => ?_)
  · refine lv_iconst (v := 3) hx hb dX5_refusalAt_42 (by decide) ?_
    exact e_i S9 hr hlk (by simp [c_30]) dX5_refusalAt_43
  · refine lv_aload hx hb dX5_refusalAt_33 (lv_at hl 0 rfl) ?_
    refine r_get (ref := "SpanMover$Row") S9 w ha rfl (by decide +kernel) 1 (by decide) (by decide +kernel) (Or.inr (by decide +kernel)) rfl dX5_refusalAt_35 ?_
    refine lv_iload_n hx hb dX5_refusalAt_38 rfl (lv_at hl 4 rfl) ?_
    refine lv_icmp_le (tgt := 44) hx hb dX5_refusalAt_39 (by decide) (fun c_39 => ?_) (fun c_39 => ?_)
    · refine lv_aload hx hb dX5_refusalAt_44 (lv_at hl 0 rfl) ?_
      refine lv_iload_n hx hb dX5_refusalAt_46 rfl (lv_at hl 2 rfl) ?_
      refine k_ui S9 w (c_hasElement_1 l _ ha i) ha rfl (va_cwU 1 hts gX5_refusalAt_X3_hasElement_u133X2 rfl rfl rfl rfl (by decide +kernel) ⟨Nat.le_of_ble_eq_true rfl, Nat.le_of_ble_eq_true rfl⟩) rfl hl.1 rfl (Nat.le_of_ble_eq_true rfl) dX5_refusalAt_47 ⟨Nat.le_of_ble_eq_true rfl, Nat.le_of_ble_eq_true rfl⟩ (fun v7 e7 => ?_)
      refine lv_if_eq (tgt := 57) hx hb dX5_refusalAt_50 (by decide) (fun c_50 => ?_) (fun c_50 => ?_)
      · refine lv_iconst (v := 4) hx hb dX5_refusalAt_57 (by decide) ?_
        exact e_i S9 hr hlk (by rw [e7] at c_50; by_cases hE : inE n i <;> simp [hE] at c_50 <;> simp [c_30, c_39, hE]) dX5_refusalAt_58
      · refine lv_iconst (v := 0) hx hb dX5_refusalAt_53 (by decide) ?_
        refine lv_goto (tgt := 58) hx hb dX5_refusalAt_54 (by decide) ?_
        exact e_i S9 hr hlk (by rw [e7] at c_50; by_cases hE : inE n i <;> simp [hE] at c_50 <;> simp [c_30, c_39, hE]) dX5_refusalAt_58
    · refine lv_iconst (v := 3) hx hb dX5_refusalAt_42 (by decide) ?_
      exact e_i S9 hr hlk (by simp [c_30, c_39]) dX5_refusalAt_43

set_option maxHeartbeats 4000000 in
set_option maxRecDepth 100000 in
theorem c_refusalAt_2 (l : Launch) {G : Gt} {ws : va_W} (sz : Nat) {k a : Nat} {v : Int32} (ha : hp ws a (.inr (2, [.int (nI k), .int v]))) (i lo hi : Int32) : Met l yX5_refusalAt wsX5_refusalAt ({ frames := 1, cells := 0, slots := 0, locals := 21 } : Room) (Pw G [.ref a, .int i, .int lo, .int hi] ws sz) (vp_Si (fun r : Int32 => r = 2)) 0 0 (fun _ => False) := by
  refine Met_pw (cc := cX5_refusalAt) (maxL := 5) (ret := (some .int)) (by decide) rfl (Nat.le_of_ble_eq_true rfl) ?_
  intro p e s m below meth c ls hsz S9 hr hlk hnm w hl
  subst hsz
  replace S9 : CallFix p m c cX5_refusalAt 5 s _ wsX5_refusalAt RX5 := S9
  have hx := S9.1
  have hb := S9.2.1
  have hown := S9.2.2.2.1
  have hts := S9.2.2.2.2
  replace hl : lv_has ls 5 [(0, .ref a), (1, .int i), (2, .int lo), (3, .int hi)] := hl
  refine lv_aload_n hx hb dX5_refusalAt_0 rfl (lv_at hl 0 rfl) ?_
  refine lv_ifnonnull (tgt := 6) hx hb dX5_refusalAt_1 (by decide) ?_
  refine lv_aload_n hx hb dX5_refusalAt_6 rfl (lv_at hl 0 rfl) ?_
  refine r_inst S9 w ha (by decide) 3 (by decide) (by decide +kernel) (v := 0) rfl dX5_refusalAt_7 ?_
  refine lv_if_eq (tgt := 22) hx hb dX5_refusalAt_10 (by decide) (fun c_10 => ?_) (fun c_10 => absurd c_10 (by decide))
  refine lv_iconst (v := 2) hx hb dX5_refusalAt_22 (by decide) ?_
  exact e_i S9 hr hlk (rfl) dX5_refusalAt_23
end
section
section LIBD
variable {p : Program} {l : Launch} {e : Env} {R : Room} {s : State} {m : MethodId} {args : Array Value} {below : List Frame} {meth : Method} {c : Code} {H : Heap} {locs : List Loc} {cells slots : Nat} {Q : State → Prop}
variable {cc : ByteArray} {nL pc : Nat} {ls : Array Slot} {rest st0 : List Value} {Ts : List Cond} {own : String} {G : Gt} {A : Nat → Prop} {ws : va_W}
/-- System.arraycopy of longs -/
theorem r_cpyJ (S : CallFix p m c cc nL s args Ts own) (w : Wd G A s ws H locs) (hl : ls.size = nL) {index : Nat} (hw : Cond.methodLink own index arraycopyName ∈ Ts ∧ Cond.native arraycopyName ∈ Ts ∧ Cond.static arraycopyName ∈ Ts ∧ Cond.initialized "java/lang/System" ∈ Ts) {a a0 n0 n1 : Nat} {f g : Nat → Int64} (ha0 : hp ws a0 (aJ G n0 f)) (ha1 : hp ws a (aJ G n1 g)) {sp dp n : Int32} (h1 : ¬ sp < 0) (h2 : ¬ dp < 0) (h3 : ¬ n < 0) (h4 : sp.toNatClampNeg + n.toNatClampNeg ≤ n0) (h5 : dp.toNatClampNeg + n.toNatClampNeg ≤ n1) (hframes : 1 ≤ R.frames) (hlocals : (rest.map fun v => v.category).sum + (nativeFrameWords "java/lang/System" "arraycopy" 5 + 11) ≤ R.locals) (hdg : decode cc pc = .ok (.invokestatic index, 3))
    (kk : ∀ (ws' : va_W) (H1 : Heap) (locs1 : List Loc), hu ws a (aJ G n1 (va_cpy f g sp.toNatClampNeg dp.toNatClampNeg n.toNatClampNeg)) ws' → Wd G A s ws' H1 locs1 → W p l e R s m args below meth c H1 locs1 cells slots Q (F0 m (pc + 3) ls rest)) : W p l e R s m args below meth c H locs cells slots Q (F0 m pc ls (.int n :: .int dp :: .ref a :: .int sp :: .ref a0 :: rest)) := by
  obtain ⟨hx, hb, hml, hown, hts⟩ := S
  obtain ⟨q0, hq0⟩ := ha0
  obtain ⟨q1, hq1⟩ := ha1
  obtain ⟨hP, hD, hS, hK, hA, hT⟩ := w
  exact va_copyl hx hb (hml.trans hl.symm) hown (hts _ hw.1) (hts _ hw.2.1) (hts _ hw.2.2.1) (hts _ hw.2.2.2) hK hP hD hS q0 q1 1 1 hq0 hq1 rfl rfl rfl h1 h2 h3 h4 h5 (fun _ _ => rfl) hframes hlocals hdg (fun H1 locs1 hP1 hD1 hS1 => kk _ H1 locs1 (hu_set hq1) ⟨hP1, hD1, hS1, hK, hA, hT⟩)
/-- System.arraycopy of Items -/
theorem r_cpyT (S : CallFix p m c cc nL s args Ts own) (w : Wd G A s ws H locs) (hl : ls.size = nL) {index : Nat} (hw : Cond.methodLink own index arraycopyName ∈ Ts ∧ Cond.native arraycopyName ∈ Ts ∧ Cond.static arraycopyName ∈ Ts ∧ Cond.initialized "java/lang/System" ∈ Ts) {a a0 n0 n1 : Nat} {f g : Nat → Option Nat} (ha0 : hp ws a0 (aT G n0 f)) (ha1 : hp ws a (aT G n1 g)) {sp dp n : Int32} (h1 : ¬ sp < 0) (h2 : ¬ dp < 0) (h3 : ¬ n < 0) (h4 : sp.toNatClampNeg + n.toNatClampNeg ≤ n0) (h5 : dp.toNatClampNeg + n.toNatClampNeg ≤ n1) (hel : ∀ i y : Nat, f i = some y → va_Any "SpanMover$Item" s H y) (hframes : 1 ≤ R.frames) (hlocals : (rest.map fun v => v.category).sum + (nativeFrameWords "java/lang/System" "arraycopy" 5 + 11) ≤ R.locals) (hdg : decode cc pc = .ok (.invokestatic index, 3))
    (kk : ∀ (ws' : va_W) (H1 : Heap) (locs1 : List Loc), hu ws a (aT G n1 (va_cpy f g sp.toNatClampNeg dp.toNatClampNeg n.toNatClampNeg)) ws' → Wd G A s ws' H1 locs1 → W p l e R s m args below meth c H1 locs1 cells slots Q (F0 m (pc + 3) ls rest)) : W p l e R s m args below meth c H locs cells slots Q (F0 m pc ls (.int n :: .int dp :: .ref a :: .int sp :: .ref a0 :: rest)) := by
  obtain ⟨hx, hb, hml, hown, hts⟩ := S
  obtain ⟨q0, hq0⟩ := ha0
  obtain ⟨q1, hq1⟩ := ha1
  obtain ⟨hP, hD, hS, hK, hA, hT⟩ := w
  exact va_copyM hx hb (hml.trans hl.symm) hown (hts _ hw.1) (hts _ hw.2.1) (hts _ hw.2.2.1) (hts _ hw.2.2.2) hK hP hD hS q0 q1 2 2 hq0 hq1 rfl rfl h1 h2 h3 h4 h5 (fun i _ y hy => hel _ y hy) hframes hlocals hdg (fun H1 locs1 hP1 hD1 hS1 => kk _ H1 locs1 (hu_set hq1) ⟨hP1, hD1, hS1, hK, hA, hT⟩)
end LIBD
theorem hu_again {ws ws1 ws2 : va_W} {a : Nat} {e1 e2 : va_E} (h1 : hu ws a e1 ws1) (h2 : hu ws1 a e2 ws2) : hu ws a e2 ws2 := ⟨h2.1, fun b e0 hb => (h2.2 b e0 hb).trans (h1.2 b e0 hb)⟩
theorem hu_rfl {ws : va_W} {a : Nat} {e : va_E} (h : hp ws a e) : hu ws a e ws := ⟨h, fun _ _ _ => Iff.rfl⟩
theorem low_hit {f : Nat → Option Nat} {k n : Nat} (hk : k < n) (h : f k = none) : low0 f (n - k) k = some k := by
  obtain ⟨m, hm⟩ : ∃ m, n - k = m + 1 := ⟨n - k - 1, by omega⟩
  rw [hm]
  simp [low0, h]
theorem low_miss {f : Nat → Option Nat} {k n y : Nat} (hk : k < n) (h : f k = some y) : low0 f (n - k) k = low0 f (n - (k + 1)) (k + 1) := by
  obtain ⟨m, hm⟩ : ∃ m, n - k = m + 1 := ⟨n - k - 1, by omega⟩
  have hm' : n - (k + 1) = m := by omega
  rw [hm, hm']
  simp [low0, h]
theorem ge_nI {v : Int32} {k n : Nat} (hv : v = nI k) (hk : k ≤ n) (hn : n < 2 ^ 31) (h : nI n ≤ v) : k = n := by
  rw [hv, nI_leI hn (by omega)] at h
  omega
theorem nge_nI {v : Int32} {k n : Nat} (hv : v = nI k) (hk : k ≤ n) (hn : n < 2 ^ 31) (h : ¬ nI n ≤ v) : k < n := by
  rw [hv, nI_leI hn (by omega)] at h
  omega
theorem in_nI {v : Int32} {k n : Nat} (hv : v = nI k) (hk : k ≤ n) (hn : n < 2 ^ 31) (h : ¬ nI n ≤ v) : vp_in v n := by
  rw [hv]
  exact vp_in_nI (nge_nI hv hk hn h) hn
theorem cl_nI {v : Int32} {k : Nat} (hv : v = nI k) (hk : k < 2 ^ 31) : v.toNatClampNeg = k := by
  rw [hv]
  exact nI_clamp hk
end
section
set_option maxHeartbeats 4000000 in
set_option maxRecDepth 100000 in
theorem c_lowestEmptyPlace (l : Launch) {G : Gt} {ws : va_W} (sz : Nat) {x sh li : Nat} {ad ar : Nat → Nat} {S : St} (hR : RpX G x sh li ad ar S ws) : Met l yX5_lowestEmptyPlace wsX5_lowestEmptyPlace ({ frames := 0, cells := 0, slots := 0, locals := 0 } : Room) (Pw G [.ref x] ws sz) (vp_Si (fun r : Int32 => r = pI (lowE S))) 0 0 (fun _ => False) := by
  refine Met_pw (cc := cX5_lowestEmptyPlace) (maxL := 2) (ret := (some .int)) (by decide) rfl (Nat.le_of_ble_eq_true rfl) ?_
  intro p e s m below meth c ls hsz S9 hr hlk hnm w hl
  subst hsz
  replace S9 : CallFix p m c cX5_lowestEmptyPlace 2 s _ wsX5_lowestEmptyPlace RX5 := S9
  have hx := S9.1
  have hb := S9.2.1
  have hown := S9.2.2.2.1
  have hts := S9.2.2.2.2
  replace hl : lv_has ls 2 [(0, .ref x)] := hl
  refine lv_iconst (v := 0) hx hb dX5_lowestEmptyPlace_0 (by decide) ?_
  refine lv_istore_n (lv' := [(1, .int 0), (0, .ref x)]) hx hb dX5_lowestEmptyPlace_1 rfl hl (by decide) rfl (fun ls hl => ?_)
  obtain ⟨k, hk, hv, hE⟩ : ∃ k : Nat, k ≤ 400 ∧ (0 : Int32) = nI k ∧ lowE S = low0 (s_s S) (400 - k) k := ⟨0, by omega, rfl, rfl⟩
  generalize (0 : Int32) = v at hl hv
  obtain ⟨n, hn⟩ : ∃ n, 400 - k < n := ⟨_, Nat.lt_succ_self _⟩
  induction n generalizing k v ls with
  | zero => exact absurd hn (Nat.not_lt_zero _)
  | succ n ih =>
    refine lv_iload_n hx hb dX5_lowestEmptyPlace_2 rfl (lv_at hl 0 rfl) ?_
    refine lv_sipush (v := 400) hx hb dX5_lowestEmptyPlace_3 (by decide) ?_
    refine lv_icmp_ge (tgt := 26) hx hb dX5_lowestEmptyPlace_6 (by decide) (fun c_6 => ?_) (fun c_6 => ?_)
    · refine lv_iconst (v := (-1)) hx hb dX5_lowestEmptyPlace_26 (by decide) ?_
      exact e_i S9 hr hlk (by have h4 := ge_nI (n := 400) hv hk (by decide) c_6; subst h4; rw [hE]; rfl) dX5_lowestEmptyPlace_27
    · refine lv_aload_n hx hb dX5_lowestEmptyPlace_9 rfl (lv_at hl 1 rfl) ?_
      refine r_get (ref := "SpanMover") S9 w hR.1 rfl (by decide +kernel) 0 (by decide) (by decide +kernel) (Or.inl rfl) rfl dX5_lowestEmptyPlace_10 ?_
      refine lv_iload_n hx hb dX5_lowestEmptyPlace_13 rfl (lv_at hl 0 rfl) ?_
      refine r_aald S9 w hR.2.1 (in_nI (n := 400) hv hk (by decide) c_6) dX5_lowestEmptyPlace_14 ?_
      refine lq_ifnonnull (tgt := 20) hx hb dX5_lowestEmptyPlace_15 (by decide) (fun c_15 => ?_) (fun a_15 c_15 => ?_)
      · refine lv_iload_n hx hb dX5_lowestEmptyPlace_18 rfl (lv_at hl 0 rfl) ?_
        exact e_i S9 hr hlk (by rw [cl_nI hv (by omega)] at c_15; rw [hE, low_hit (nge_nI (n := 400) hv hk (by decide) c_6) (by simpa using c_15)]; exact hv) dX5_lowestEmptyPlace_19
      · obtain ⟨v1, ev1⟩ : ∃ z : Int32, z = v + 1 := ⟨_, rfl⟩
        refine lv_iinc (v := v1) (lv' := [(1, .int v1), (0, .ref x)]) hx hb dX5_lowestEmptyPlace_20 hl (k := 0) rfl (by rw [ev1]; rfl) (by decide) rfl (fun ls hl => ?_)
        refine lv_goto (tgt := 2) hx hb dX5_lowestEmptyPlace_23 (by decide) ?_
        have hk4 := nge_nI (n := 400) hv hk (by decide) c_6
        rw [cl_nI hv (by omega)] at c_15
        obtain ⟨y, hy⟩ : ∃ y, s_s S k = some y := by
          cases hs : s_s S k with
          | none => simp [hs] at c_15
          | some y => exact ⟨y, rfl⟩
        exact ih (ls := ls) (k := k + 1) (v := v1) (hk := by omega) (hv := by rw [ev1, hv]; exact nI_1 k) (hE := by rw [hE, low_miss hk4 hy]) (hl := hl) (hn := by omega)

set_option maxHeartbeats 4000000 in
set_option maxRecDepth 100000 in
theorem c_takenPlaces (l : Launch) {G : Gt} {ws : va_W} (sz : Nat) {x sh li : Nat} {ad ar : Nat → Nat} {S : St} (hR : RpX G x sh li ad ar S ws) : Met l yX5_takenPlaces wsX5_takenPlaces ({ frames := 0, cells := 0, slots := 0, locals := 0 } : Room) (Pw G [.ref x] ws sz) (vp_Si (fun r : Int32 => r = nI (tkn (s_s S) 400))) 0 0 (fun _ => False) := by
  refine Met_pw (cc := cX5_takenPlaces) (maxL := 6) (ret := (some .int)) (by decide) rfl (Nat.le_of_ble_eq_true rfl) ?_
  intro p e s m below meth c ls hsz S9 hr hlk hnm w hl
  subst hsz
  replace S9 : CallFix p m c cX5_takenPlaces 6 s _ wsX5_takenPlaces RX5 := S9
  have hx := S9.1
  have hb := S9.2.1
  have hown := S9.2.2.2.1
  have hts := S9.2.2.2.2
  replace hl : lv_has ls 6 [(0, .ref x)] := hl
  refine lv_iconst (v := 0) hx hb dX5_takenPlaces_0 (by decide) ?_
  refine lv_istore_n (lv' := [(1, .int 0), (0, .ref x)]) hx hb dX5_takenPlaces_1 rfl hl (by decide) rfl (fun ls hl => ?_)
  refine lv_aload_n hx hb dX5_takenPlaces_2 rfl (lv_at hl 1 rfl) ?_
  refine r_get (ref := "SpanMover") S9 w hR.1 rfl (by decide +kernel) 0 (by decide) (by decide +kernel) (Or.inl rfl) rfl dX5_takenPlaces_3 ?_
  refine lv_astore_n (lv' := [(2, .ref sh), (1, .int 0), (0, .ref x)]) hx hb dX5_takenPlaces_6 rfl hl (by decide) rfl (fun ls hl => ?_)
  refine lv_aload_n hx hb dX5_takenPlaces_7 rfl (lv_at hl 0 rfl) ?_
  refine r_alen S9 w hR.2.1 dX5_takenPlaces_8 ?_
  refine lv_istore_n (lv' := [(3, .int (nI 400)), (2, .ref sh), (1, .int 0), (0, .ref x)]) hx hb dX5_takenPlaces_9 rfl hl (by decide) rfl (fun ls hl => ?_)
  refine lv_iconst (v := 0) hx hb dX5_takenPlaces_10 (by decide) ?_
  refine lv_istore (lv' := [(4, .int 0), (3, .int (nI 400)), (2, .ref sh), (1, .int 0), (0, .ref x)]) hx hb dX5_takenPlaces_11 hl (by decide) rfl (fun ls hl => ?_)
  obtain ⟨k, hk, hv, ht⟩ : ∃ k : Nat, k ≤ 400 ∧ (0 : Int32) = nI k ∧ (0 : Int32) = nI (tkn (s_s S) k) := ⟨0, by omega, rfl, rfl⟩
  obtain ⟨v, hv0⟩ : ∃ v : Int32, v = 0 := ⟨_, rfl⟩
  obtain ⟨t, ht0⟩ : ∃ t : Int32, t = 0 := ⟨_, rfl⟩
  replace hl : lv_has ls 6 [(4, .int v), (3, .int (nI 400)), (2, .ref sh), (1, .int t), (0, .ref x)] := by rw [hv0, ht0]; exact hl
  rw [← hv0] at hv
  rw [← ht0] at ht
  clear hv0 ht0
  obtain ⟨n, hn⟩ : ∃ n, 400 - k < n := ⟨_, Nat.lt_succ_self _⟩
  induction n generalizing k v t ls with
  | zero => exact absurd hn (Nat.not_lt_zero _)
  | succ n ih =>
    refine lv_iload hx hb dX5_takenPlaces_13 (lv_at hl 0 rfl) ?_
    refine lv_iload_n hx hb dX5_takenPlaces_15 rfl (lv_at hl 1 rfl) ?_
    refine lv_icmp_ge (tgt := 39) hx hb dX5_takenPlaces_16 (by decide) (fun c_16 => ?_) (fun c_16 => ?_)
    · refine lv_iload_n hx hb dX5_takenPlaces_39 rfl (lv_at hl 3 rfl) ?_
      exact e_i S9 hr hlk (by have h4 := ge_nI (n := 400) hv hk (by decide) c_16; subst h4; exact ht) dX5_takenPlaces_40
    · refine lv_aload_n hx hb dX5_takenPlaces_19 rfl (lv_at hl 2 rfl) ?_
      refine lv_iload hx hb dX5_takenPlaces_20 (lv_at hl 0 rfl) ?_
      refine r_aald S9 w hR.2.1 (in_nI (n := 400) hv hk (by decide) c_16) dX5_takenPlaces_22 ?_
      refine lq_astore (lv' := [(5, va_rf ((fun i => (s_s S i).map ad) v.toNatClampNeg)), (4, .int v), (3, .int (nI 400)), (2, .ref sh), (1, .int t), (0, .ref x)]) hx hb dX5_takenPlaces_23 hl (by decide) rfl (fun ls hl => ?_)
      refine lq_aload hx hb dX5_takenPlaces_25 (lv_at hl 0 rfl) ?_
      refine lq_ifnull (tgt := 33) hx hb dX5_takenPlaces_27 (by decide) (fun c_27 => ?_) (fun a_27 c_27 => ?_)
      · obtain ⟨v1, ev1⟩ : ∃ z : Int32, z = v + 1 := ⟨_, rfl⟩
        refine lv_iinc (v := v1) (lv' := [(4, .int v1), (5, va_rf ((fun i => (s_s S i).map ad) v.toNatClampNeg)), (3, .int (nI 400)), (2, .ref sh), (1, .int t), (0, .ref x)]) hx hb dX5_takenPlaces_33 hl (k := 1) rfl (by rw [ev1]; rfl) (by decide) rfl (fun ls hl => ?_)
        refine lv_goto (tgt := 13) hx hb dX5_takenPlaces_36 (by decide) ?_
        have hk4 := nge_nI (n := 400) hv hk (by decide) c_16
        rw [cl_nI hv (by omega)] at c_27
        exact ih (ls := ls) (k := k + 1) (v := v1) (t := t) (hk := by omega) (hv := by rw [ev1, hv]; exact nI_1 k) (ht := by
            cases hs : s_s S k with
            | none => simp [hs] at c_27 <;> simp [tkn, hs,  ht]
            | some y => simp [hs] at c_27 <;> simp [tkn, hs,  ht, nI_succ]) (hl := lv_sub hl [0, 2, 3, 4, 5] rfl) (hn := by omega)
      · obtain ⟨v2, ev2⟩ : ∃ z : Int32, z = t + 1 := ⟨_, rfl⟩
        refine lv_iinc (v := v2) (lv' := [(1, .int v2), (5, va_rf ((fun i => (s_s S i).map ad) v.toNatClampNeg)), (4, .int v), (3, .int (nI 400)), (2, .ref sh), (0, .ref x)]) hx hb dX5_takenPlaces_30 hl (k := 4) rfl (by rw [ev2]; rfl) (by decide) rfl (fun ls hl => ?_)
        obtain ⟨v3, ev3⟩ : ∃ z : Int32, z = v + 1 := ⟨_, rfl⟩
        refine lv_iinc (v := v3) (lv' := [(4, .int v3), (1, .int v2), (5, va_rf ((fun i => (s_s S i).map ad) v.toNatClampNeg)), (3, .int (nI 400)), (2, .ref sh), (0, .ref x)]) hx hb dX5_takenPlaces_33 hl (k := 2) rfl (by rw [ev3]; rfl) (by decide) rfl (fun ls hl => ?_)
        refine lv_goto (tgt := 13) hx hb dX5_takenPlaces_36 (by decide) ?_
        have hk4 := nge_nI (n := 400) hv hk (by decide) c_16
        rw [cl_nI hv (by omega)] at c_27
        exact ih (ls := ls) (k := k + 1) (v := v3) (t := v2) (hk := by omega) (hv := by rw [ev3, hv]; exact nI_1 k) (ht := by
            cases hs : s_s S k with
            | none => simp [hs] at c_27 <;> simp [tkn, hs, ev2, ht]
            | some y => simp [hs] at c_27 <;> simp [tkn, hs, ev2, ht, nI_succ]) (hl := lv_sub hl [0, 3, 4, 1, 5] rfl) (hn := by omega)
end
section
set_option maxHeartbeats 4000000 in
set_option maxRecDepth 100000 in
theorem c_put (l : Launch) {G : Gt} {ws : va_W} (sz : Nat) {n k a b : Nat} {dk : Int32} {kd : Int64} (ha : hp ws a (.inr (0, [.int (nI n), .int (nI k), .ref b, .int dk, .long kd]))) (hk : k ≤ 3) {f : Nat → Int64} (hb0 : hp ws b (aJ G n f)) (i : Int32) (hi : vp_in i n) (v : Int64) : Met l yX1_put wsX1_put ({ frames := 1, cells := 0, slots := 0, locals := 22 } : Room) (Pw G [.ref a, .int i, .long v] ws sz) (va_Qv (fun (u : va_W) => ∃ ws1, hu ws b (aJ G n (vp_updL f i.toNatClampNeg (narK k v))) ws1 ∧ hu ws1 a (.inr (0, [.int (nI n), .int (nI k), .ref b, .int 0, .long kd])) u) (Bw G ws sz) (va_A ws sz)) 0 0 (va_A ws sz) := by
  refine Met_pw (cc := cX1_put) (maxL := 4) (ret := none) (by decide) rfl (Nat.le_of_ble_eq_true rfl) ?_
  intro p e s m below meth c ls hsz S9 hr hlk hnm w hl
  subst hsz
  replace S9 : CallFix p m c cX1_put 4 s _ wsX1_put RX1 := S9
  have hx := S9.1
  have hb := S9.2.1
  have hown := S9.2.2.2.1
  have hts := S9.2.2.2.2
  replace hl : lv_has ls 4 [(0, .ref a), (1, .int i), (2, .long v)] := hl
  refine lv_aload_n hx hb dX1_put_0 rfl (lv_at hl 0 rfl) ?_
  refine r_get (ref := "SpanMover$NumberRow") S9 w ha rfl (by decide +kernel) 2 (by decide) (by decide +kernel) (Or.inl rfl) rfl dX1_put_1 ?_
  refine lv_iload_n hx hb dX1_put_4 rfl (lv_at hl 1 rfl) ?_
  refine lv_aload_n hx hb dX1_put_5 rfl (lv_at hl 0 rfl) ?_
  refine lv_lload_n hx hb dX1_put_6 rfl (lv_at hl 2 rfl) ?_
  refine k_vl S9 w (c_narrowed l _ ha hk v) ha rfl (cwV 1 hts gX1_put_X1_narrowed rfl rfl rfl (by decide +kernel) ⟨Nat.le_of_ble_eq_true rfl, Nat.le_of_ble_eq_true rfl⟩) rfl hl.1 rfl (Nat.le_of_ble_eq_true rfl) dX1_put_7 ⟨Nat.le_of_ble_eq_true rfl, Nat.le_of_ble_eq_true rfl⟩ (fun v7 e7 => ?_)
  refine r_last S9 w hb0 hi dX1_put_10 (fun ws8 H8 lc8 u8 w8 => ?_)
  have ha8 := u8.keep (hp_ne_of w.2.1 ha hb0 (fun q => by cases q)) ha
  refine lv_aload_n hx hb dX1_put_11 rfl (lv_at hl 0 rfl) ?_
  refine lv_iconst (v := 0) hx hb dX1_put_12 (by decide) ?_
  refine r_put (ref := "SpanMover$NumberRow") S9 w8 ha8 rfl (by decide +kernel) tyX1_ok nmX1 3 (by decide) (by decide +kernel) (Or.inl rfl) rfl rfl rfl (Nat.le_of_ble_eq_true rfl) dX1_put_13 (fun ws1 H1 lc1 u1 w1 => ?_)
  have f1 : hp ws1 a (.inr (0, [.int (nI n), .int (nI k), .ref b, .int 0, .long kd])) := u1.1
  exact ew_v S9 hr hlk w1 (⟨ws8, by rw [← e7]; exact u8, u1⟩) dX1_put_16 (by decide) (by decide)

set_option maxHeartbeats 4000000 in
set_option maxRecDepth 100000 in
theorem c_takeSpan (l : Launch) {G : Gt} {ws : va_W} (sz : Nat) {n k a b : Nat} {dk : Int32} {kd : Int64} (ha : hp ws a (.inr (0, [.int (nI n), .int (nI k), .ref b, .int dk, .long kd]))) {f : Nat → Int64} (hb0 : hp ws b (aJ G n f)) {n9 k9 a9 b9 : Nat} {dk9 : Int32} {kd9 : Int64} (ha9 : hp ws a9 (.inr (0, [.int (nI n9), .int (nI k9), .ref b9, .int dk9, .long kd9]))) {f9 : Nat → Int64} (hb9 : hp ws b9 (aJ G n9 f9)) (j i c0 : Int32) (h1 : ¬ i < 0) (h2 : ¬ j < 0) (h3 : ¬ c0 < 0) (h4 : i.toNatClampNeg + c0.toNatClampNeg ≤ n9) (h5 : j.toNatClampNeg + c0.toNatClampNeg ≤ n) : Met l yX1_takeSpan wsX1_takeSpan ({ frames := 1, cells := 0, slots := 0, locals := 40 } : Room) (Pw G [.ref a, .int j, .ref a9, .int i, .int c0] ws sz) (va_Qv (fun (u : va_W) => ∃ ws1, hu ws b (aJ G n (va_cpy f9 f i.toNatClampNeg j.toNatClampNeg c0.toNatClampNeg)) ws1 ∧ hu ws1 a (.inr (0, [.int (nI n), .int (nI k), .ref b, .int 0, .long kd])) u) (Bw G ws sz) (va_A ws sz)) 0 0 (va_A ws sz) := by
  refine Met_pw (cc := cX1_takeSpan) (maxL := 5) (ret := none) (by decide) rfl (Nat.le_of_ble_eq_true rfl) ?_
  intro p e s m below meth c ls hsz S9 hr hlk hnm w hl
  subst hsz
  replace S9 : CallFix p m c cX1_takeSpan 5 s _ wsX1_takeSpan RX1 := S9
  have hx := S9.1
  have hb := S9.2.1
  have hown := S9.2.2.2.1
  have hts := S9.2.2.2.2
  replace hl : lv_has ls 5 [(0, .ref a), (1, .int j), (2, .ref a9), (3, .int i), (4, .int c0)] := hl
  refine lv_aload_n hx hb dX1_takeSpan_0 rfl (lv_at hl 2 rfl) ?_
  refine r_get (ref := "SpanMover$NumberRow") S9 w ha9 rfl (by decide +kernel) 2 (by decide) (by decide +kernel) (Or.inl rfl) rfl dX1_takeSpan_1 ?_
  refine lv_iload_n hx hb dX1_takeSpan_4 rfl (lv_at hl 3 rfl) ?_
  refine lv_aload_n hx hb dX1_takeSpan_5 rfl (lv_at hl 0 rfl) ?_
  refine r_get (ref := "SpanMover$NumberRow") S9 w ha rfl (by decide +kernel) 2 (by decide) (by decide +kernel) (Or.inl rfl) rfl dX1_takeSpan_6 ?_
  refine lv_iload_n hx hb dX1_takeSpan_9 rfl (lv_at hl 1 rfl) ?_
  refine lv_iload hx hb dX1_takeSpan_10 (lv_at hl 4 rfl) ?_
  refine r_cpyJ S9 w hl.1 (by decide +kernel) hb9 hb0 h1 h2 h3 h4 h5 (Nat.le_of_ble_eq_true rfl) (Nat.le_of_ble_eq_true rfl) dX1_takeSpan_12 (fun ws8 H8 lc8 u8 w8 => ?_)
  have ha8 := u8.keep (hp_ne_of w.2.1 ha hb0 (fun q => by cases q)) ha
  refine lv_aload_n hx hb dX1_takeSpan_15 rfl (lv_at hl 0 rfl) ?_
  refine lv_iconst (v := 0) hx hb dX1_takeSpan_16 (by decide) ?_
  refine r_put (ref := "SpanMover$NumberRow") S9 w8 ha8 rfl (by decide +kernel) tyX1_ok nmX1 3 (by decide) (by decide +kernel) (Or.inl rfl) rfl rfl rfl (Nat.le_of_ble_eq_true rfl) dX1_takeSpan_17 (fun ws1 H1 lc1 u1 w1 => ?_)
  have f1 : hp ws1 a (.inr (0, [.int (nI n), .int (nI k), .ref b, .int 0, .long kd])) := u1.1
  exact ew_v S9 hr hlk w1 (⟨ws8, u8, u1⟩) dX1_takeSpan_20 (by decide) (by decide)

set_option maxHeartbeats 4000000 in
set_option maxRecDepth 100000 in
theorem c_putObject_N (l : Launch) {G : Gt} {ws : va_W} (sz : Nat) {n k a b : Nat} (ha : hp ws a (.inr (1, [.int (nI n), .int (nI k), .ref b]))) {f : Nat → Option Nat} (hb0 : hp ws b (aT G n f)) (i : Int32) (hi : vp_in i n) : Met l yX2_putObject wsX2_putObject ({ frames := 0, cells := 0, slots := 0, locals := 0 } : Room) (Pw G [.ref a, .int i, .null] ws sz) (va_Qv (fun (u : va_W) => hu ws b (aT G n (va_up f i.toNatClampNeg none)) u) (Bw G ws sz) (va_A ws sz)) 0 0 (va_A ws sz) := by
  refine Met_pw (cc := cX2_putObject) (maxL := 3) (ret := none) (by decide) rfl (Nat.le_of_ble_eq_true rfl) ?_
  intro p e s m below meth c ls hsz S9 hr hlk hnm w hl
  subst hsz
  replace S9 : CallFix p m c cX2_putObject 3 s _ wsX2_putObject RX2 := S9
  have hx := S9.1
  have hb := S9.2.1
  have hown := S9.2.2.2.1
  have hts := S9.2.2.2.2
  replace hl : lv_has ls 3 [(0, .ref a), (1, .int i), (2, .null)] := hl
  refine lv_aload_n hx hb dX2_putObject_0 rfl (lv_at hl 0 rfl) ?_
  refine r_get (ref := "SpanMover$ObjectRow") S9 w ha rfl (by decide +kernel) 2 (by decide) (by decide +kernel) (Or.inl rfl) rfl dX2_putObject_1 ?_
  refine lv_iload_n hx hb dX2_putObject_4 rfl (lv_at hl 1 rfl) ?_
  refine lv_aload_nN hx hb dX2_putObject_5 rfl (lv_at hl 2 rfl) ?_
  refine r_aast (r := none) S9 w hb0 (fun z hz => by cases hz) hi dX2_putObject_6 (fun ws8 H8 lc8 u8 w8 => ?_)
  exact ew_v S9 hr hlk w8 (u8) dX2_putObject_7 (by decide) (by decide)

set_option maxHeartbeats 4000000 in
set_option maxRecDepth 100000 in
theorem c_putObject_S (l : Launch) {G : Gt} {ws : va_W} (sz : Nat) {n k a b : Nat} (ha : hp ws a (.inr (1, [.int (nI n), .int (nI k), .ref b]))) {f : Nat → Option Nat} (hb0 : hp ws b (aT G n f)) (i : Int32) (hi : vp_in i n) {z ci : Nat} {fs : List Value} (hc9 : ci < 3) (hz9 : hp ws z (.inr (ci, fs))) : Met l yX2_putObject wsX2_putObject ({ frames := 0, cells := 0, slots := 0, locals := 0 } : Room) (Pw G [.ref a, .int i, .ref z] ws sz) (va_Qv (fun (u : va_W) => hu ws b (aT G n (va_up f i.toNatClampNeg (some z))) u) (Bw G ws sz) (va_A ws sz)) 0 0 (va_A ws sz) := by
  refine Met_pw (cc := cX2_putObject) (maxL := 3) (ret := none) (by decide) rfl (Nat.le_of_ble_eq_true rfl) ?_
  intro p e s m below meth c ls hsz S9 hr hlk hnm w hl
  subst hsz
  replace S9 : CallFix p m c cX2_putObject 3 s _ wsX2_putObject RX2 := S9
  have hx := S9.1
  have hb := S9.2.1
  have hown := S9.2.2.2.1
  have hts := S9.2.2.2.2
  replace hl : lv_has ls 3 [(0, .ref a), (1, .int i), (2, .ref z)] := hl
  refine lv_aload_n hx hb dX2_putObject_0 rfl (lv_at hl 0 rfl) ?_
  refine r_get (ref := "SpanMover$ObjectRow") S9 w ha rfl (by decide +kernel) 2 (by decide) (by decide +kernel) (Or.inl rfl) rfl dX2_putObject_1 ?_
  refine lv_iload_n hx hb dX2_putObject_4 rfl (lv_at hl 1 rfl) ?_
  refine lv_aload_n hx hb dX2_putObject_5 rfl (lv_at hl 2 rfl) ?_
  refine r_aast (r := some z) S9 w hb0 (fun z hz => by cases hz; exact w.any hz9 hc9) hi dX2_putObject_6 (fun ws8 H8 lc8 u8 w8 => ?_)
  exact ew_v S9 hr hlk w8 (u8) dX2_putObject_7 (by decide) (by decide)

set_option maxHeartbeats 4000000 in
set_option maxRecDepth 100000 in
theorem c_digestOfNumbers (l : Launch) {G : Gt} {ws : va_W} (sz : Nat) {n k a b : Nat} {dk : Int32} {kd : Int64} (ha : hp ws a (.inr (0, [.int (nI n), .int (nI k), .ref b, .int dk, .long kd]))) (hn : n < 2 ^ 31) {f : Nat → Int64} (hb0 : hp ws b (aJ G n f)) (hq : dk = 0 ∨ dk = 1 ∧ kd = dgF k f n) : Met l yX1_digestOfNumbers wsX1_digestOfNumbers ({ frames := 0, cells := 0, slots := 0, locals := 0 } : Room) (Pw G [.ref a] ws sz) (va_Ql (fun (r : Int64) (u : va_W) => r = dgF k f n ∧ hu ws a (.inr (0, [.int (nI n), .int (nI k), .ref b, .int 1, .long (dgF k f n)])) u) (Bw G ws sz) (va_A ws sz)) 0 0 (va_A ws sz) := by
  refine Met_pw (cc := cX1_digestOfNumbers) (maxL := 8) (ret := (some .long)) (by decide) rfl (Nat.le_of_ble_eq_true rfl) ?_
  intro p e s m below meth c ls hsz S9 hr hlk hnm w hl
  subst hsz
  replace S9 : CallFix p m c cX1_digestOfNumbers 8 s _ wsX1_digestOfNumbers RX1 := S9
  have hx := S9.1
  have hb := S9.2.1
  have hown := S9.2.2.2.1
  have hts := S9.2.2.2.2
  replace hl : lv_has ls 8 [(0, .ref a)] := hl
  refine lv_aload_n hx hb dX1_digestOfNumbers_0 rfl (lv_at hl 0 rfl) ?_
  refine r_get (ref := "SpanMover$NumberRow") S9 w ha rfl (by decide +kernel) 3 (by decide) (by decide +kernel) (Or.inl rfl) rfl dX1_digestOfNumbers_1 ?_
  refine lv_if_ne (tgt := 65) hx hb dX1_digestOfNumbers_4 (by decide) (fun c_4 => ?_) (fun c_4 => ?_)
  · refine lv_aload_n hx hb dX1_digestOfNumbers_65 rfl (lv_at hl 0 rfl) ?_
    refine r_get (ref := "SpanMover$NumberRow") S9 w ha rfl (by decide +kernel) 4 (by decide) (by decide +kernel) (Or.inl rfl) rfl dX1_digestOfNumbers_66 ?_
    rcases hq with hq | ⟨hq, hq2⟩
    · exact absurd hq c_4
    · subst hq; subst hq2
      exact ew_l S9 hr hlk w ⟨rfl, hu_rfl ha⟩ dX1_digestOfNumbers_69 (by decide) (by decide)
  · refine lv_aload_n hx hb dX1_digestOfNumbers_7 rfl (lv_at hl 0 rfl) ?_
    refine r_get (ref := "SpanMover$NumberRow") S9 w ha rfl (by decide +kernel) 1 (by decide) (by decide +kernel) (Or.inr (by decide +kernel)) rfl dX1_digestOfNumbers_8 ?_
    refine lv_iconst (v := 1) hx hb dX1_digestOfNumbers_11 (by decide) ?_
    refine lv_iadd hx hb dX1_digestOfNumbers_12 ?_
    refine lv_topi (fun v1 ev1 => ?_)
    obtain ⟨v2, ev2⟩ : ∃ z : Int64, Int32.toInt64 v1 = z := ⟨_, rfl⟩
    refine lv_i2l (v := v2) hx hb dX1_digestOfNumbers_13 ev2 ?_
    refine lv_lstore_n (lv' := [(1, .long v2), (0, .ref a)]) hx hb dX1_digestOfNumbers_14 rfl hl (by decide) rfl (fun ls hl => ?_)
    refine lv_aload_n hx hb dX1_digestOfNumbers_15 rfl (lv_at hl 1 rfl) ?_
    refine r_get (ref := "SpanMover$NumberRow") S9 w ha rfl (by decide +kernel) 2 (by decide) (by decide +kernel) (Or.inl rfl) rfl dX1_digestOfNumbers_16 ?_
    refine lv_astore_n (lv' := [(3, .ref b), (1, .long v2), (0, .ref a)]) hx hb dX1_digestOfNumbers_19 rfl hl (by decide) rfl (fun ls hl => ?_)
    refine lv_aload_n hx hb dX1_digestOfNumbers_20 rfl (lv_at hl 0 rfl) ?_
    refine r_llen S9 w hb0 dX1_digestOfNumbers_21 ?_
    refine lv_istore (lv' := [(4, .int (nI n)), (3, .ref b), (1, .long v2), (0, .ref a)]) hx hb dX1_digestOfNumbers_22 hl (by decide) rfl (fun ls hl => ?_)
    refine lv_iconst (v := 0) hx hb dX1_digestOfNumbers_24 (by decide) ?_
    refine lv_istore (lv' := [(5, .int 0), (4, .int (nI n)), (3, .ref b), (1, .long v2), (0, .ref a)]) hx hb dX1_digestOfNumbers_25 hl (by decide) rfl (fun ls hl => ?_)
    obtain ⟨i, hi, hv, hd⟩ : ∃ i : Nat, i ≤ n ∧ (0 : Int32) = nI i ∧ v2 = dgF k f i := ⟨0, by omega, rfl, by rw [← ev2, ev1]; rfl⟩
    obtain ⟨v, hv0⟩ : ∃ v : Int32, v = 0 := ⟨_, rfl⟩
    obtain ⟨d, hd0⟩ : ∃ d : Int64, d = v2 := ⟨_, rfl⟩
    replace hl : lv_has ls 8 [(5, .int v), (4, .int (nI n)), (3, .ref b), (1, .long d), (0, .ref a)] := by rw [hv0, hd0]; exact hl
    rw [← hv0] at hv
    rw [← hd0] at hd
    clear hv0 hd0
    obtain ⟨t, ht⟩ : ∃ t, n - i < t := ⟨_, Nat.lt_succ_self _⟩
    induction t generalizing i v d ls with
    | zero => exact absurd ht (Nat.not_lt_zero _)
    | succ t ih =>
      refine lv_iload hx hb dX1_digestOfNumbers_27 (lv_at hl 0 rfl) ?_
      refine lv_iload hx hb dX1_digestOfNumbers_29 (lv_at hl 1 rfl) ?_
      refine lv_icmp_ge (tgt := 55) hx hb dX1_digestOfNumbers_31 (by decide) (fun c_31 => ?_) (fun c_31 => ?_)
      · refine lv_aload_n hx hb dX1_digestOfNumbers_55 rfl (lv_at hl 4 rfl) ?_
        refine lv_lload_n hx hb dX1_digestOfNumbers_56 rfl (lv_at hl 3 rfl) ?_
        have hD : d = dgF k f n := by have h4 := ge_nI hv hi hn c_31; subst h4; exact hd
        refine r_put (ref := "SpanMover$NumberRow") S9 w ha rfl (by decide +kernel) tyX1_ok nmX1 4 (by decide) (by decide +kernel) (Or.inl rfl) rfl rfl rfl (Nat.le_of_ble_eq_true rfl) dX1_digestOfNumbers_57 (fun ws3 H3 lc3 u3 w3 => ?_)
        have f3 : hp ws3 a (.inr (0, [.int (nI n), .int (nI k), .ref b, .int dk, .long d])) := u3.1
        refine lv_aload_n hx hb dX1_digestOfNumbers_60 rfl (lv_at hl 4 rfl) ?_
        refine lv_iconst (v := 1) hx hb dX1_digestOfNumbers_61 (by decide) ?_
        refine r_put (ref := "SpanMover$NumberRow") S9 w3 f3 rfl (by decide +kernel) tyX1_ok nmX1 3 (by decide) (by decide +kernel) (Or.inl rfl) rfl rfl rfl (Nat.le_of_ble_eq_true rfl) dX1_digestOfNumbers_62 (fun ws4 H4 lc4 u4 w4 => ?_)
        have f4 : hp ws4 a (.inr (0, [.int (nI n), .int (nI k), .ref b, .int 1, .long d])) := u4.1
        refine lv_aload_n hx hb dX1_digestOfNumbers_65 rfl (lv_at hl 4 rfl) ?_
        refine r_get (ref := "SpanMover$NumberRow") S9 w4 f4 rfl (by decide +kernel) 4 (by decide) (by decide +kernel) (Or.inl rfl) rfl dX1_digestOfNumbers_66 ?_
        exact ew_l S9 hr hlk w4 ⟨hD, by have h9 := hu_again u3 u4; rw [hD] at h9; exact h9⟩ dX1_digestOfNumbers_69 (by decide) (by decide)
      · refine lv_aload_n hx hb dX1_digestOfNumbers_34 rfl (lv_at hl 2 rfl) ?_
        refine lv_iload hx hb dX1_digestOfNumbers_35 (lv_at hl 0 rfl) ?_
        refine r_lald S9 w hb0 (in_nI hv hi hn c_31) dX1_digestOfNumbers_37 ?_
        refine lv_topl (fun v5 ev5 => ?_)
        refine lv_lstore (lv' := [(6, .long v5), (5, .int v), (4, .int (nI n)), (3, .ref b), (1, .long d), (0, .ref a)]) hx hb dX1_digestOfNumbers_38 hl (by decide) rfl (fun ls hl => ?_)
        refine lv_ldc2 (v := 31) hx hb hown (hts (.constantLong RX1 33 (31)) (by decide +kernel)) dX1_digestOfNumbers_40 ?_
        refine lv_lload_n hx hb dX1_digestOfNumbers_43 rfl (lv_at hl 4 rfl) ?_
        refine lv_lmul hx hb dX1_digestOfNumbers_44 ?_
        refine lv_topl (fun v6 ev6 => ?_)
        refine lv_lload hx hb dX1_digestOfNumbers_45 (lv_at hl 0 rfl) ?_
        refine lv_ladd hx hb dX1_digestOfNumbers_47 ?_
        refine lv_topl (fun v7 ev7 => ?_)
        refine lv_lstore_n (lv' := [(1, .long v7), (6, .long v5), (5, .int v), (4, .int (nI n)), (3, .ref b), (0, .ref a)]) hx hb dX1_digestOfNumbers_48 rfl hl (by decide) rfl (fun ls hl => ?_)
        obtain ⟨v8, ev8⟩ : ∃ z : Int32, z = v + 1 := ⟨_, rfl⟩
        refine lv_iinc (v := v8) (lv' := [(5, .int v8), (1, .long v7), (6, .long v5), (4, .int (nI n)), (3, .ref b), (0, .ref a)]) hx hb dX1_digestOfNumbers_49 hl (k := 2) rfl (by rw [ev8]; rfl) (by decide) rfl (fun ls hl => ?_)
        refine lv_goto (tgt := 27) hx hb dX1_digestOfNumbers_52 (by decide) ?_
        have hi4 := nge_nI hv hi hn c_31
        exact ih (ls := ls) (i := i + 1) (v := v8) (d := v7) (hi := by omega) (hv := by rw [ev8, hv]; exact nI_1 i) (hd := by rw [ev7, ev6, hd, ev5, cl_nI hv (by omega)]; rfl) (hl := lv_sub hl [0, 3, 4, 1, 5] rfl) (ht := by omega)

set_option maxHeartbeats 4000000 in
set_option maxRecDepth 100000 in
theorem c_refusalOfRows_NN (l : Launch) {G : Gt} {ws : va_W} (sz : Nat)  : Met l yX5_refusalOfRows wsX5_refusalOfRows ({ frames := 0, cells := 0, slots := 0, locals := 0 } : Room) (Pw G [.null, .null] ws sz) (vp_Si (fun r : Int32 => r = 1)) 0 0 (fun _ => False) := by
  refine Met_pw (cc := cX5_refusalOfRows) (maxL := 3) (ret := (some .int)) (by decide) rfl (Nat.le_of_ble_eq_true rfl) ?_
  intro p e s m below meth c ls hsz S9 hr hlk hnm w hl
  subst hsz
  replace S9 : CallFix p m c cX5_refusalOfRows 3 s _ wsX5_refusalOfRows RX5 := S9
  have hx := S9.1
  have hb := S9.2.1
  have hown := S9.2.2.2.1
  have hts := S9.2.2.2.2
  replace hl : lv_has ls 3 [(0, .null), (1, .null)] := hl
  refine lv_aload_nN hx hb dX5_refusalOfRows_0 rfl (lv_at hl 0 rfl) ?_
  refine lv_ifnullN (tgt := 8) hx hb dX5_refusalOfRows_1 (by decide) ?_
  refine lv_iconst (v := 1) hx hb dX5_refusalOfRows_8 (by decide) ?_
  exact e_i S9 hr hlk (rfl) dX5_refusalOfRows_9

set_option maxHeartbeats 4000000 in
set_option maxRecDepth 100000 in
theorem c_refusalOfRows_NS (l : Launch) {G : Gt} {ws : va_W} (sz : Nat) (z : Nat) : Met l yX5_refusalOfRows wsX5_refusalOfRows ({ frames := 0, cells := 0, slots := 0, locals := 0 } : Room) (Pw G [.null, .ref z] ws sz) (vp_Si (fun r : Int32 => r = 1)) 0 0 (fun _ => False) := by
  refine Met_pw (cc := cX5_refusalOfRows) (maxL := 3) (ret := (some .int)) (by decide) rfl (Nat.le_of_ble_eq_true rfl) ?_
  intro p e s m below meth c ls hsz S9 hr hlk hnm w hl
  subst hsz
  replace S9 : CallFix p m c cX5_refusalOfRows 3 s _ wsX5_refusalOfRows RX5 := S9
  have hx := S9.1
  have hb := S9.2.1
  have hown := S9.2.2.2.1
  have hts := S9.2.2.2.2
  replace hl : lv_has ls 3 [(0, .null), (1, .ref z)] := hl
  refine lv_aload_nN hx hb dX5_refusalOfRows_0 rfl (lv_at hl 0 rfl) ?_
  refine lv_ifnullN (tgt := 8) hx hb dX5_refusalOfRows_1 (by decide) ?_
  refine lv_iconst (v := 1) hx hb dX5_refusalOfRows_8 (by decide) ?_
  exact e_i S9 hr hlk (rfl) dX5_refusalOfRows_9

set_option maxHeartbeats 4000000 in
set_option maxRecDepth 100000 in
theorem c_refusalOfRows_M (l : Launch) {G : Gt} {ws : va_W} (sz : Nat) (a : Nat) : Met l yX5_refusalOfRows wsX5_refusalOfRows ({ frames := 0, cells := 0, slots := 0, locals := 0 } : Room) (Pw G [.ref a, .null] ws sz) (vp_Si (fun r : Int32 => r = 1)) 0 0 (fun _ => False) := by
  refine Met_pw (cc := cX5_refusalOfRows) (maxL := 3) (ret := (some .int)) (by decide) rfl (Nat.le_of_ble_eq_true rfl) ?_
  intro p e s m below meth c ls hsz S9 hr hlk hnm w hl
  subst hsz
  replace S9 : CallFix p m c cX5_refusalOfRows 3 s _ wsX5_refusalOfRows RX5 := S9
  have hx := S9.1
  have hb := S9.2.1
  have hown := S9.2.2.2.1
  have hts := S9.2.2.2.2
  replace hl : lv_has ls 3 [(0, .ref a), (1, .null)] := hl
  refine lv_aload_n hx hb dX5_refusalOfRows_0 rfl (lv_at hl 0 rfl) ?_
  refine lv_ifnull hx hb dX5_refusalOfRows_1 ?_
  refine lv_aload_nN hx hb dX5_refusalOfRows_4 rfl (lv_at hl 1 rfl) ?_
  refine lv_ifnonnullN hx hb dX5_refusalOfRows_5 ?_
  refine lv_iconst (v := 1) hx hb dX5_refusalOfRows_8 (by decide) ?_
  exact e_i S9 hr hlk (rfl) dX5_refusalOfRows_9

set_option maxHeartbeats 4000000 in
set_option maxRecDepth 100000 in
theorem c_refusalOfRows_00 (l : Launch) {G : Gt} {ws : va_W} (sz : Nat) {n k a b : Nat} {dk : Int32} {kd : Int64} (ha : hp ws a (.inr (0, [.int (nI n), .int (nI k), .ref b, .int dk, .long kd]))) (h0 : k ≤ 3) {n9 k9 a9 b9 : Nat} {dk9 : Int32} {kd9 : Int64} (ha9 : hp ws a9 (.inr (0, [.int (nI n9), .int (nI k9), .ref b9, .int dk9, .long kd9]))) (h9 : k9 ≤ 3) : Met l yX5_refusalOfRows wsX5_refusalOfRows ({ frames := 0, cells := 0, slots := 0, locals := 0 } : Room) (Pw G [.ref a, .ref a9] ws sz) (vp_Si (fun r : Int32 => r = if 7 ≤ k then 2 else if 7 ≤ k9 then 2 else if (4 ≤ k ∧ 4 ≤ k9) ∨ k = k9 then 0 else 3)) 0 0 (fun _ => False) := by
  refine Met_pw (cc := cX5_refusalOfRows) (maxL := 3) (ret := (some .int)) (by decide) rfl (Nat.le_of_ble_eq_true rfl) ?_
  intro p e s m below meth c ls hsz S9 hr hlk hnm w hl
  subst hsz
  replace S9 : CallFix p m c cX5_refusalOfRows 3 s _ wsX5_refusalOfRows RX5 := S9
  have hx := S9.1
  have hb := S9.2.1
  have hown := S9.2.2.2.1
  have hts := S9.2.2.2.2
  replace hl : lv_has ls 3 [(0, .ref a), (1, .ref a9)] := hl
  refine lv_aload_n hx hb dX5_refusalOfRows_0 rfl (lv_at hl 0 rfl) ?_
  refine lv_ifnull hx hb dX5_refusalOfRows_1 ?_
  refine lv_aload_n hx hb dX5_refusalOfRows_4 rfl (lv_at hl 1 rfl) ?_
  refine lv_ifnonnull (tgt := 10) hx hb dX5_refusalOfRows_5 (by decide) ?_
  refine lv_aload_n hx hb dX5_refusalOfRows_10 rfl (lv_at hl 0 rfl) ?_
  refine r_inst S9 w ha (by decide) 2 (by decide) (by decide +kernel) (v := 0) rfl dX5_refusalOfRows_11 ?_
  refine lv_if_ne (tgt := 24) hx hb dX5_refusalOfRows_14 (by decide) (fun c_14 => absurd c_14 (by decide)) (fun c_14 => ?_)
  refine lv_aload_n hx hb dX5_refusalOfRows_17 rfl (lv_at hl 1 rfl) ?_
  refine r_inst S9 w ha9 (by decide) 2 (by decide) (by decide +kernel) (v := 0) rfl dX5_refusalOfRows_18 ?_
  refine lv_if_eq (tgt := 26) hx hb dX5_refusalOfRows_21 (by decide) (fun c_21 => ?_) (fun c_21 => absurd c_21 (by decide))
  refine lv_aload_n hx hb dX5_refusalOfRows_26 rfl (lv_at hl 0 rfl) ?_
  refine r_inst S9 w ha (by decide) 1 (by decide) (by decide +kernel) (v := 0) rfl dX5_refusalOfRows_27 ?_
  refine lv_if_eq (tgt := 44) hx hb dX5_refusalOfRows_30 (by decide) (fun c_30 => ?_) (fun c_30 => absurd c_30 (by decide))
  refine lv_iconst (v := 0) hx hb dX5_refusalOfRows_44 (by decide) ?_
  refine lv_istore_n (lv' := [(2, .int 0), (0, .ref a), (1, .ref a9)]) hx hb dX5_refusalOfRows_45 rfl hl (by decide) rfl (fun ls hl => ?_)
  refine lv_iload_n hx hb dX5_refusalOfRows_46 rfl (lv_at hl 0 rfl) ?_
  refine lv_if_ne (tgt := 61) hx hb dX5_refusalOfRows_47 (by decide) (fun c_47 => absurd c_47 (by decide)) (fun c_47 => ?_)
  refine lv_aload_n hx hb dX5_refusalOfRows_50 rfl (lv_at hl 1 rfl) ?_
  refine r_get (ref := "SpanMover$Item") S9 w ha rfl (by decide +kernel) 1 (by decide) (by decide +kernel) (Or.inl rfl) rfl dX5_refusalOfRows_51 ?_
  refine lv_aload_n hx hb dX5_refusalOfRows_54 rfl (lv_at hl 2 rfl) ?_
  refine r_get (ref := "SpanMover$Item") S9 w ha9 rfl (by decide +kernel) 1 (by decide) (by decide +kernel) (Or.inl rfl) rfl dX5_refusalOfRows_55 ?_
  refine lv_icmp_ne (tgt := 65) hx hb dX5_refusalOfRows_58 (by decide) (fun c_58 => ?_) (fun c_58 => ?_)
  · refine lv_iconst (v := 3) hx hb dX5_refusalOfRows_65 (by decide) ?_
    exact e_i S9 hr hlk (by rw [nI_lit (by omega) (by omega)] at c_58; have e1 : ¬ 7 ≤ k := (by omega); have e2 : ¬ 7 ≤ k9 := (by omega); have e3 : ¬ (4 ≤ k ∧ 4 ≤ k9) := (by omega); first | (rw [if_neg e1, if_neg e2, if_pos (by omega)]) | (rw [if_neg e1, if_neg e2, if_neg (by omega)])) dX5_refusalOfRows_66
  · refine lv_iconst (v := 0) hx hb dX5_refusalOfRows_61 (by decide) ?_
    refine lv_goto (tgt := 66) hx hb dX5_refusalOfRows_62 (by decide) ?_
    exact e_i S9 hr hlk (by rw [nI_lit (by omega) (by omega)] at c_58; have e1 : ¬ 7 ≤ k := (by omega); have e2 : ¬ 7 ≤ k9 := (by omega); have e3 : ¬ (4 ≤ k ∧ 4 ≤ k9) := (by omega); first | (rw [if_neg e1, if_neg e2, if_pos (by omega)]) | (rw [if_neg e1, if_neg e2, if_neg (by omega)])) dX5_refusalOfRows_66

set_option maxHeartbeats 4000000 in
set_option maxRecDepth 100000 in
theorem c_refusalOfRows_01 (l : Launch) {G : Gt} {ws : va_W} (sz : Nat) {n k a b : Nat} {dk : Int32} {kd : Int64} (ha : hp ws a (.inr (0, [.int (nI n), .int (nI k), .ref b, .int dk, .long kd]))) (h0 : k ≤ 3) {n9 k9 a9 b9 : Nat} (ha9 : hp ws a9 (.inr (1, [.int (nI n9), .int (nI k9), .ref b9]))) (h9 : 4 ≤ k9) (h9l : k9 ≤ 6) : Met l yX5_refusalOfRows wsX5_refusalOfRows ({ frames := 0, cells := 0, slots := 0, locals := 0 } : Room) (Pw G [.ref a, .ref a9] ws sz) (vp_Si (fun r : Int32 => r = if 7 ≤ k then 2 else if 7 ≤ k9 then 2 else if (4 ≤ k ∧ 4 ≤ k9) ∨ k = k9 then 0 else 3)) 0 0 (fun _ => False) := by
  refine Met_pw (cc := cX5_refusalOfRows) (maxL := 3) (ret := (some .int)) (by decide) rfl (Nat.le_of_ble_eq_true rfl) ?_
  intro p e s m below meth c ls hsz S9 hr hlk hnm w hl
  subst hsz
  replace S9 : CallFix p m c cX5_refusalOfRows 3 s _ wsX5_refusalOfRows RX5 := S9
  have hx := S9.1
  have hb := S9.2.1
  have hown := S9.2.2.2.1
  have hts := S9.2.2.2.2
  replace hl : lv_has ls 3 [(0, .ref a), (1, .ref a9)] := hl
  refine lv_aload_n hx hb dX5_refusalOfRows_0 rfl (lv_at hl 0 rfl) ?_
  refine lv_ifnull hx hb dX5_refusalOfRows_1 ?_
  refine lv_aload_n hx hb dX5_refusalOfRows_4 rfl (lv_at hl 1 rfl) ?_
  refine lv_ifnonnull (tgt := 10) hx hb dX5_refusalOfRows_5 (by decide) ?_
  refine lv_aload_n hx hb dX5_refusalOfRows_10 rfl (lv_at hl 0 rfl) ?_
  refine r_inst S9 w ha (by decide) 2 (by decide) (by decide +kernel) (v := 0) rfl dX5_refusalOfRows_11 ?_
  refine lv_if_ne (tgt := 24) hx hb dX5_refusalOfRows_14 (by decide) (fun c_14 => absurd c_14 (by decide)) (fun c_14 => ?_)
  refine lv_aload_n hx hb dX5_refusalOfRows_17 rfl (lv_at hl 1 rfl) ?_
  refine r_inst S9 w ha9 (by decide) 2 (by decide) (by decide +kernel) (v := 0) rfl dX5_refusalOfRows_18 ?_
  refine lv_if_eq (tgt := 26) hx hb dX5_refusalOfRows_21 (by decide) (fun c_21 => ?_) (fun c_21 => absurd c_21 (by decide))
  refine lv_aload_n hx hb dX5_refusalOfRows_26 rfl (lv_at hl 0 rfl) ?_
  refine r_inst S9 w ha (by decide) 1 (by decide) (by decide +kernel) (v := 0) rfl dX5_refusalOfRows_27 ?_
  refine lv_if_eq (tgt := 44) hx hb dX5_refusalOfRows_30 (by decide) (fun c_30 => ?_) (fun c_30 => absurd c_30 (by decide))
  refine lv_iconst (v := 0) hx hb dX5_refusalOfRows_44 (by decide) ?_
  refine lv_istore_n (lv' := [(2, .int 0), (0, .ref a), (1, .ref a9)]) hx hb dX5_refusalOfRows_45 rfl hl (by decide) rfl (fun ls hl => ?_)
  refine lv_iload_n hx hb dX5_refusalOfRows_46 rfl (lv_at hl 0 rfl) ?_
  refine lv_if_ne (tgt := 61) hx hb dX5_refusalOfRows_47 (by decide) (fun c_47 => absurd c_47 (by decide)) (fun c_47 => ?_)
  refine lv_aload_n hx hb dX5_refusalOfRows_50 rfl (lv_at hl 1 rfl) ?_
  refine r_get (ref := "SpanMover$Item") S9 w ha rfl (by decide +kernel) 1 (by decide) (by decide +kernel) (Or.inl rfl) rfl dX5_refusalOfRows_51 ?_
  refine lv_aload_n hx hb dX5_refusalOfRows_54 rfl (lv_at hl 2 rfl) ?_
  refine r_get (ref := "SpanMover$Item") S9 w ha9 rfl (by decide +kernel) 1 (by decide) (by decide +kernel) (Or.inl rfl) rfl dX5_refusalOfRows_55 ?_
  refine lv_icmp_ne (tgt := 65) hx hb dX5_refusalOfRows_58 (by decide) (fun c_58 => ?_) (fun c_58 => ?_)
  · refine lv_iconst (v := 3) hx hb dX5_refusalOfRows_65 (by decide) ?_
    exact e_i S9 hr hlk (by rw [nI_lit (by omega) (by omega)] at c_58; have e1 : ¬ 7 ≤ k := (by omega); have e2 : ¬ 7 ≤ k9 := (by omega); have e3 : ¬ (4 ≤ k ∧ 4 ≤ k9) := (by omega); first | omega | (rw [if_neg e1, if_neg e2, if_neg (by omega)])) dX5_refusalOfRows_66
  · refine lv_iconst (v := 0) hx hb dX5_refusalOfRows_61 (by decide) ?_
    refine lv_goto (tgt := 66) hx hb dX5_refusalOfRows_62 (by decide) ?_
    exact e_i S9 hr hlk (by rw [nI_lit (by omega) (by omega)] at c_58; have e1 : ¬ 7 ≤ k := (by omega); have e2 : ¬ 7 ≤ k9 := (by omega); have e3 : ¬ (4 ≤ k ∧ 4 ≤ k9) := (by omega); first | omega | (rw [if_neg e1, if_neg e2, if_neg (by omega)])) dX5_refusalOfRows_66

set_option maxHeartbeats 4000000 in
set_option maxRecDepth 100000 in
theorem c_refusalOfRows_02 (l : Launch) {G : Gt} {ws : va_W} (sz : Nat) {n k a b : Nat} {dk : Int32} {kd : Int64} (ha : hp ws a (.inr (0, [.int (nI n), .int (nI k), .ref b, .int dk, .long kd]))) (h0 : k ≤ 3) {k9 a9 : Nat} {v9 : Int32} (ha9 : hp ws a9 (.inr (2, [.int (nI k9), .int v9]))) (h9 : 7 ≤ k9) (h9l : k9 ≤ 8) : Met l yX5_refusalOfRows wsX5_refusalOfRows ({ frames := 0, cells := 0, slots := 0, locals := 0 } : Room) (Pw G [.ref a, .ref a9] ws sz) (vp_Si (fun r : Int32 => r = if 7 ≤ k then 2 else if 7 ≤ k9 then 2 else if (4 ≤ k ∧ 4 ≤ k9) ∨ k = k9 then 0 else 3)) 0 0 (fun _ => False) := by
  refine Met_pw (cc := cX5_refusalOfRows) (maxL := 3) (ret := (some .int)) (by decide) rfl (Nat.le_of_ble_eq_true rfl) ?_
  intro p e s m below meth c ls hsz S9 hr hlk hnm w hl
  subst hsz
  replace S9 : CallFix p m c cX5_refusalOfRows 3 s _ wsX5_refusalOfRows RX5 := S9
  have hx := S9.1
  have hb := S9.2.1
  have hown := S9.2.2.2.1
  have hts := S9.2.2.2.2
  replace hl : lv_has ls 3 [(0, .ref a), (1, .ref a9)] := hl
  refine lv_aload_n hx hb dX5_refusalOfRows_0 rfl (lv_at hl 0 rfl) ?_
  refine lv_ifnull hx hb dX5_refusalOfRows_1 ?_
  refine lv_aload_n hx hb dX5_refusalOfRows_4 rfl (lv_at hl 1 rfl) ?_
  refine lv_ifnonnull (tgt := 10) hx hb dX5_refusalOfRows_5 (by decide) ?_
  refine lv_aload_n hx hb dX5_refusalOfRows_10 rfl (lv_at hl 0 rfl) ?_
  refine r_inst S9 w ha (by decide) 2 (by decide) (by decide +kernel) (v := 0) rfl dX5_refusalOfRows_11 ?_
  refine lv_if_ne (tgt := 24) hx hb dX5_refusalOfRows_14 (by decide) (fun c_14 => absurd c_14 (by decide)) (fun c_14 => ?_)
  refine lv_aload_n hx hb dX5_refusalOfRows_17 rfl (lv_at hl 1 rfl) ?_
  refine r_inst S9 w ha9 (by decide) 2 (by decide) (by decide +kernel) (v := 1) rfl dX5_refusalOfRows_18 ?_
  refine lv_if_eq (tgt := 26) hx hb dX5_refusalOfRows_21 (by decide) (fun c_21 => absurd c_21 (by decide)) (fun c_21 => ?_)
  refine lv_iconst (v := 2) hx hb dX5_refusalOfRows_24 (by decide) ?_
  exact e_i S9 hr hlk (by have e1 : ¬ 7 ≤ k := (by omega); simp [e1, h9]) dX5_refusalOfRows_25

set_option maxHeartbeats 4000000 in
set_option maxRecDepth 100000 in
theorem c_refusalOfRows_10 (l : Launch) {G : Gt} {ws : va_W} (sz : Nat) {n k a b : Nat} (ha : hp ws a (.inr (1, [.int (nI n), .int (nI k), .ref b]))) (h0 : 4 ≤ k) (h0l : k ≤ 6) {n9 k9 a9 b9 : Nat} {dk9 : Int32} {kd9 : Int64} (ha9 : hp ws a9 (.inr (0, [.int (nI n9), .int (nI k9), .ref b9, .int dk9, .long kd9]))) (h9 : k9 ≤ 3) : Met l yX5_refusalOfRows wsX5_refusalOfRows ({ frames := 0, cells := 0, slots := 0, locals := 0 } : Room) (Pw G [.ref a, .ref a9] ws sz) (vp_Si (fun r : Int32 => r = if 7 ≤ k then 2 else if 7 ≤ k9 then 2 else if (4 ≤ k ∧ 4 ≤ k9) ∨ k = k9 then 0 else 3)) 0 0 (fun _ => False) := by
  refine Met_pw (cc := cX5_refusalOfRows) (maxL := 3) (ret := (some .int)) (by decide) rfl (Nat.le_of_ble_eq_true rfl) ?_
  intro p e s m below meth c ls hsz S9 hr hlk hnm w hl
  subst hsz
  replace S9 : CallFix p m c cX5_refusalOfRows 3 s _ wsX5_refusalOfRows RX5 := S9
  have hx := S9.1
  have hb := S9.2.1
  have hown := S9.2.2.2.1
  have hts := S9.2.2.2.2
  replace hl : lv_has ls 3 [(0, .ref a), (1, .ref a9)] := hl
  refine lv_aload_n hx hb dX5_refusalOfRows_0 rfl (lv_at hl 0 rfl) ?_
  refine lv_ifnull hx hb dX5_refusalOfRows_1 ?_
  refine lv_aload_n hx hb dX5_refusalOfRows_4 rfl (lv_at hl 1 rfl) ?_
  refine lv_ifnonnull (tgt := 10) hx hb dX5_refusalOfRows_5 (by decide) ?_
  refine lv_aload_n hx hb dX5_refusalOfRows_10 rfl (lv_at hl 0 rfl) ?_
  refine r_inst S9 w ha (by decide) 2 (by decide) (by decide +kernel) (v := 0) rfl dX5_refusalOfRows_11 ?_
  refine lv_if_ne (tgt := 24) hx hb dX5_refusalOfRows_14 (by decide) (fun c_14 => absurd c_14 (by decide)) (fun c_14 => ?_)
  refine lv_aload_n hx hb dX5_refusalOfRows_17 rfl (lv_at hl 1 rfl) ?_
  refine r_inst S9 w ha9 (by decide) 2 (by decide) (by decide +kernel) (v := 0) rfl dX5_refusalOfRows_18 ?_
  refine lv_if_eq (tgt := 26) hx hb dX5_refusalOfRows_21 (by decide) (fun c_21 => ?_) (fun c_21 => absurd c_21 (by decide))
  refine lv_aload_n hx hb dX5_refusalOfRows_26 rfl (lv_at hl 0 rfl) ?_
  refine r_inst S9 w ha (by decide) 1 (by decide) (by decide +kernel) (v := 1) rfl dX5_refusalOfRows_27 ?_
  refine lv_if_eq (tgt := 44) hx hb dX5_refusalOfRows_30 (by decide) (fun c_30 => absurd c_30 (by decide)) (fun c_30 => ?_)
  refine lv_aload_n hx hb dX5_refusalOfRows_33 rfl (lv_at hl 1 rfl) ?_
  refine r_inst S9 w ha9 (by decide) 1 (by decide) (by decide +kernel) (v := 0) rfl dX5_refusalOfRows_34 ?_
  refine lv_if_eq (tgt := 44) hx hb dX5_refusalOfRows_37 (by decide) (fun c_37 => ?_) (fun c_37 => absurd c_37 (by decide))
  refine lv_iconst (v := 0) hx hb dX5_refusalOfRows_44 (by decide) ?_
  refine lv_istore_n (lv' := [(2, .int 0), (0, .ref a), (1, .ref a9)]) hx hb dX5_refusalOfRows_45 rfl hl (by decide) rfl (fun ls hl => ?_)
  refine lv_iload_n hx hb dX5_refusalOfRows_46 rfl (lv_at hl 0 rfl) ?_
  refine lv_if_ne (tgt := 61) hx hb dX5_refusalOfRows_47 (by decide) (fun c_47 => absurd c_47 (by decide)) (fun c_47 => ?_)
  refine lv_aload_n hx hb dX5_refusalOfRows_50 rfl (lv_at hl 1 rfl) ?_
  refine r_get (ref := "SpanMover$Item") S9 w ha rfl (by decide +kernel) 1 (by decide) (by decide +kernel) (Or.inl rfl) rfl dX5_refusalOfRows_51 ?_
  refine lv_aload_n hx hb dX5_refusalOfRows_54 rfl (lv_at hl 2 rfl) ?_
  refine r_get (ref := "SpanMover$Item") S9 w ha9 rfl (by decide +kernel) 1 (by decide) (by decide +kernel) (Or.inl rfl) rfl dX5_refusalOfRows_55 ?_
  refine lv_icmp_ne (tgt := 65) hx hb dX5_refusalOfRows_58 (by decide) (fun c_58 => ?_) (fun c_58 => ?_)
  · refine lv_iconst (v := 3) hx hb dX5_refusalOfRows_65 (by decide) ?_
    exact e_i S9 hr hlk (by rw [nI_lit (by omega) (by omega)] at c_58; have e1 : ¬ 7 ≤ k := (by omega); have e2 : ¬ 7 ≤ k9 := (by omega); have e3 : ¬ (4 ≤ k ∧ 4 ≤ k9) := (by omega); first | omega | (rw [if_neg e1, if_neg e2, if_neg (by omega)])) dX5_refusalOfRows_66
  · refine lv_iconst (v := 0) hx hb dX5_refusalOfRows_61 (by decide) ?_
    refine lv_goto (tgt := 66) hx hb dX5_refusalOfRows_62 (by decide) ?_
    exact e_i S9 hr hlk (by rw [nI_lit (by omega) (by omega)] at c_58; have e1 : ¬ 7 ≤ k := (by omega); have e2 : ¬ 7 ≤ k9 := (by omega); have e3 : ¬ (4 ≤ k ∧ 4 ≤ k9) := (by omega); first | omega | (rw [if_neg e1, if_neg e2, if_neg (by omega)])) dX5_refusalOfRows_66

set_option maxHeartbeats 4000000 in
set_option maxRecDepth 100000 in
theorem c_refusalOfRows_11 (l : Launch) {G : Gt} {ws : va_W} (sz : Nat) {n k a b : Nat} (ha : hp ws a (.inr (1, [.int (nI n), .int (nI k), .ref b]))) (h0 : 4 ≤ k) (h0l : k ≤ 6) {n9 k9 a9 b9 : Nat} (ha9 : hp ws a9 (.inr (1, [.int (nI n9), .int (nI k9), .ref b9]))) (h9 : 4 ≤ k9) (h9l : k9 ≤ 6) : Met l yX5_refusalOfRows wsX5_refusalOfRows ({ frames := 0, cells := 0, slots := 0, locals := 0 } : Room) (Pw G [.ref a, .ref a9] ws sz) (vp_Si (fun r : Int32 => r = if 7 ≤ k then 2 else if 7 ≤ k9 then 2 else if (4 ≤ k ∧ 4 ≤ k9) ∨ k = k9 then 0 else 3)) 0 0 (fun _ => False) := by
  refine Met_pw (cc := cX5_refusalOfRows) (maxL := 3) (ret := (some .int)) (by decide) rfl (Nat.le_of_ble_eq_true rfl) ?_
  intro p e s m below meth c ls hsz S9 hr hlk hnm w hl
  subst hsz
  replace S9 : CallFix p m c cX5_refusalOfRows 3 s _ wsX5_refusalOfRows RX5 := S9
  have hx := S9.1
  have hb := S9.2.1
  have hown := S9.2.2.2.1
  have hts := S9.2.2.2.2
  replace hl : lv_has ls 3 [(0, .ref a), (1, .ref a9)] := hl
  refine lv_aload_n hx hb dX5_refusalOfRows_0 rfl (lv_at hl 0 rfl) ?_
  refine lv_ifnull hx hb dX5_refusalOfRows_1 ?_
  refine lv_aload_n hx hb dX5_refusalOfRows_4 rfl (lv_at hl 1 rfl) ?_
  refine lv_ifnonnull (tgt := 10) hx hb dX5_refusalOfRows_5 (by decide) ?_
  refine lv_aload_n hx hb dX5_refusalOfRows_10 rfl (lv_at hl 0 rfl) ?_
  refine r_inst S9 w ha (by decide) 2 (by decide) (by decide +kernel) (v := 0) rfl dX5_refusalOfRows_11 ?_
  refine lv_if_ne (tgt := 24) hx hb dX5_refusalOfRows_14 (by decide) (fun c_14 => absurd c_14 (by decide)) (fun c_14 => ?_)
  refine lv_aload_n hx hb dX5_refusalOfRows_17 rfl (lv_at hl 1 rfl) ?_
  refine r_inst S9 w ha9 (by decide) 2 (by decide) (by decide +kernel) (v := 0) rfl dX5_refusalOfRows_18 ?_
  refine lv_if_eq (tgt := 26) hx hb dX5_refusalOfRows_21 (by decide) (fun c_21 => ?_) (fun c_21 => absurd c_21 (by decide))
  refine lv_aload_n hx hb dX5_refusalOfRows_26 rfl (lv_at hl 0 rfl) ?_
  refine r_inst S9 w ha (by decide) 1 (by decide) (by decide +kernel) (v := 1) rfl dX5_refusalOfRows_27 ?_
  refine lv_if_eq (tgt := 44) hx hb dX5_refusalOfRows_30 (by decide) (fun c_30 => absurd c_30 (by decide)) (fun c_30 => ?_)
  refine lv_aload_n hx hb dX5_refusalOfRows_33 rfl (lv_at hl 1 rfl) ?_
  refine r_inst S9 w ha9 (by decide) 1 (by decide) (by decide +kernel) (v := 1) rfl dX5_refusalOfRows_34 ?_
  refine lv_if_eq (tgt := 44) hx hb dX5_refusalOfRows_37 (by decide) (fun c_37 => absurd c_37 (by decide)) (fun c_37 => ?_)
  refine lv_iconst (v := 1) hx hb dX5_refusalOfRows_40 (by decide) ?_
  refine lv_goto (tgt := 45) hx hb dX5_refusalOfRows_41 (by decide) ?_
  refine lv_istore_n (lv' := [(2, .int 1), (0, .ref a), (1, .ref a9)]) hx hb dX5_refusalOfRows_45 rfl hl (by decide) rfl (fun ls hl => ?_)
  refine lv_iload_n hx hb dX5_refusalOfRows_46 rfl (lv_at hl 0 rfl) ?_
  refine lv_if_ne (tgt := 61) hx hb dX5_refusalOfRows_47 (by decide) (fun c_47 => ?_) (fun c_47 => absurd c_47 (by decide))
  refine lv_iconst (v := 0) hx hb dX5_refusalOfRows_61 (by decide) ?_
  refine lv_goto (tgt := 66) hx hb dX5_refusalOfRows_62 (by decide) ?_
  exact e_i S9 hr hlk (by have e1 : ¬ 7 ≤ k := (by omega); have e2 : ¬ 7 ≤ k9 := (by omega); simp [e1, e2, h0, h9]) dX5_refusalOfRows_66

set_option maxHeartbeats 4000000 in
set_option maxRecDepth 100000 in
theorem c_refusalOfRows_12 (l : Launch) {G : Gt} {ws : va_W} (sz : Nat) {n k a b : Nat} (ha : hp ws a (.inr (1, [.int (nI n), .int (nI k), .ref b]))) (h0 : 4 ≤ k) (h0l : k ≤ 6) {k9 a9 : Nat} {v9 : Int32} (ha9 : hp ws a9 (.inr (2, [.int (nI k9), .int v9]))) (h9 : 7 ≤ k9) (h9l : k9 ≤ 8) : Met l yX5_refusalOfRows wsX5_refusalOfRows ({ frames := 0, cells := 0, slots := 0, locals := 0 } : Room) (Pw G [.ref a, .ref a9] ws sz) (vp_Si (fun r : Int32 => r = if 7 ≤ k then 2 else if 7 ≤ k9 then 2 else if (4 ≤ k ∧ 4 ≤ k9) ∨ k = k9 then 0 else 3)) 0 0 (fun _ => False) := by
  refine Met_pw (cc := cX5_refusalOfRows) (maxL := 3) (ret := (some .int)) (by decide) rfl (Nat.le_of_ble_eq_true rfl) ?_
  intro p e s m below meth c ls hsz S9 hr hlk hnm w hl
  subst hsz
  replace S9 : CallFix p m c cX5_refusalOfRows 3 s _ wsX5_refusalOfRows RX5 := S9
  have hx := S9.1
  have hb := S9.2.1
  have hown := S9.2.2.2.1
  have hts := S9.2.2.2.2
  replace hl : lv_has ls 3 [(0, .ref a), (1, .ref a9)] := hl
  refine lv_aload_n hx hb dX5_refusalOfRows_0 rfl (lv_at hl 0 rfl) ?_
  refine lv_ifnull hx hb dX5_refusalOfRows_1 ?_
  refine lv_aload_n hx hb dX5_refusalOfRows_4 rfl (lv_at hl 1 rfl) ?_
  refine lv_ifnonnull (tgt := 10) hx hb dX5_refusalOfRows_5 (by decide) ?_
  refine lv_aload_n hx hb dX5_refusalOfRows_10 rfl (lv_at hl 0 rfl) ?_
  refine r_inst S9 w ha (by decide) 2 (by decide) (by decide +kernel) (v := 0) rfl dX5_refusalOfRows_11 ?_
  refine lv_if_ne (tgt := 24) hx hb dX5_refusalOfRows_14 (by decide) (fun c_14 => absurd c_14 (by decide)) (fun c_14 => ?_)
  refine lv_aload_n hx hb dX5_refusalOfRows_17 rfl (lv_at hl 1 rfl) ?_
  refine r_inst S9 w ha9 (by decide) 2 (by decide) (by decide +kernel) (v := 1) rfl dX5_refusalOfRows_18 ?_
  refine lv_if_eq (tgt := 26) hx hb dX5_refusalOfRows_21 (by decide) (fun c_21 => absurd c_21 (by decide)) (fun c_21 => ?_)
  refine lv_iconst (v := 2) hx hb dX5_refusalOfRows_24 (by decide) ?_
  exact e_i S9 hr hlk (by have e1 : ¬ 7 ≤ k := (by omega); simp [e1, h9]) dX5_refusalOfRows_25

set_option maxHeartbeats 4000000 in
set_option maxRecDepth 100000 in
theorem c_refusalOfRows_20 (l : Launch) {G : Gt} {ws : va_W} (sz : Nat) {k a : Nat} {v : Int32} (ha : hp ws a (.inr (2, [.int (nI k), .int v]))) (h0 : 7 ≤ k) (h0l : k ≤ 8) {n9 k9 a9 b9 : Nat} {dk9 : Int32} {kd9 : Int64} (ha9 : hp ws a9 (.inr (0, [.int (nI n9), .int (nI k9), .ref b9, .int dk9, .long kd9]))) (h9 : k9 ≤ 3) : Met l yX5_refusalOfRows wsX5_refusalOfRows ({ frames := 0, cells := 0, slots := 0, locals := 0 } : Room) (Pw G [.ref a, .ref a9] ws sz) (vp_Si (fun r : Int32 => r = if 7 ≤ k then 2 else if 7 ≤ k9 then 2 else if (4 ≤ k ∧ 4 ≤ k9) ∨ k = k9 then 0 else 3)) 0 0 (fun _ => False) := by
  refine Met_pw (cc := cX5_refusalOfRows) (maxL := 3) (ret := (some .int)) (by decide) rfl (Nat.le_of_ble_eq_true rfl) ?_
  intro p e s m below meth c ls hsz S9 hr hlk hnm w hl
  subst hsz
  replace S9 : CallFix p m c cX5_refusalOfRows 3 s _ wsX5_refusalOfRows RX5 := S9
  have hx := S9.1
  have hb := S9.2.1
  have hown := S9.2.2.2.1
  have hts := S9.2.2.2.2
  replace hl : lv_has ls 3 [(0, .ref a), (1, .ref a9)] := hl
  refine lv_aload_n hx hb dX5_refusalOfRows_0 rfl (lv_at hl 0 rfl) ?_
  refine lv_ifnull hx hb dX5_refusalOfRows_1 ?_
  refine lv_aload_n hx hb dX5_refusalOfRows_4 rfl (lv_at hl 1 rfl) ?_
  refine lv_ifnonnull (tgt := 10) hx hb dX5_refusalOfRows_5 (by decide) ?_
  refine lv_aload_n hx hb dX5_refusalOfRows_10 rfl (lv_at hl 0 rfl) ?_
  refine r_inst S9 w ha (by decide) 2 (by decide) (by decide +kernel) (v := 1) rfl dX5_refusalOfRows_11 ?_
  refine lv_if_ne (tgt := 24) hx hb dX5_refusalOfRows_14 (by decide) (fun c_14 => ?_) (fun c_14 => absurd c_14 (by decide))
  refine lv_iconst (v := 2) hx hb dX5_refusalOfRows_24 (by decide) ?_
  exact e_i S9 hr hlk (by simp [h0]) dX5_refusalOfRows_25

set_option maxHeartbeats 4000000 in
set_option maxRecDepth 100000 in
theorem c_refusalOfRows_21 (l : Launch) {G : Gt} {ws : va_W} (sz : Nat) {k a : Nat} {v : Int32} (ha : hp ws a (.inr (2, [.int (nI k), .int v]))) (h0 : 7 ≤ k) (h0l : k ≤ 8) {n9 k9 a9 b9 : Nat} (ha9 : hp ws a9 (.inr (1, [.int (nI n9), .int (nI k9), .ref b9]))) (h9 : 4 ≤ k9) (h9l : k9 ≤ 6) : Met l yX5_refusalOfRows wsX5_refusalOfRows ({ frames := 0, cells := 0, slots := 0, locals := 0 } : Room) (Pw G [.ref a, .ref a9] ws sz) (vp_Si (fun r : Int32 => r = if 7 ≤ k then 2 else if 7 ≤ k9 then 2 else if (4 ≤ k ∧ 4 ≤ k9) ∨ k = k9 then 0 else 3)) 0 0 (fun _ => False) := by
  refine Met_pw (cc := cX5_refusalOfRows) (maxL := 3) (ret := (some .int)) (by decide) rfl (Nat.le_of_ble_eq_true rfl) ?_
  intro p e s m below meth c ls hsz S9 hr hlk hnm w hl
  subst hsz
  replace S9 : CallFix p m c cX5_refusalOfRows 3 s _ wsX5_refusalOfRows RX5 := S9
  have hx := S9.1
  have hb := S9.2.1
  have hown := S9.2.2.2.1
  have hts := S9.2.2.2.2
  replace hl : lv_has ls 3 [(0, .ref a), (1, .ref a9)] := hl
  refine lv_aload_n hx hb dX5_refusalOfRows_0 rfl (lv_at hl 0 rfl) ?_
  refine lv_ifnull hx hb dX5_refusalOfRows_1 ?_
  refine lv_aload_n hx hb dX5_refusalOfRows_4 rfl (lv_at hl 1 rfl) ?_
  refine lv_ifnonnull (tgt := 10) hx hb dX5_refusalOfRows_5 (by decide) ?_
  refine lv_aload_n hx hb dX5_refusalOfRows_10 rfl (lv_at hl 0 rfl) ?_
  refine r_inst S9 w ha (by decide) 2 (by decide) (by decide +kernel) (v := 1) rfl dX5_refusalOfRows_11 ?_
  refine lv_if_ne (tgt := 24) hx hb dX5_refusalOfRows_14 (by decide) (fun c_14 => ?_) (fun c_14 => absurd c_14 (by decide))
  refine lv_iconst (v := 2) hx hb dX5_refusalOfRows_24 (by decide) ?_
  exact e_i S9 hr hlk (by simp [h0]) dX5_refusalOfRows_25

set_option maxHeartbeats 4000000 in
set_option maxRecDepth 100000 in
theorem c_refusalOfRows_22 (l : Launch) {G : Gt} {ws : va_W} (sz : Nat) {k a : Nat} {v : Int32} (ha : hp ws a (.inr (2, [.int (nI k), .int v]))) (h0 : 7 ≤ k) (h0l : k ≤ 8) {k9 a9 : Nat} {v9 : Int32} (ha9 : hp ws a9 (.inr (2, [.int (nI k9), .int v9]))) (h9 : 7 ≤ k9) (h9l : k9 ≤ 8) : Met l yX5_refusalOfRows wsX5_refusalOfRows ({ frames := 0, cells := 0, slots := 0, locals := 0 } : Room) (Pw G [.ref a, .ref a9] ws sz) (vp_Si (fun r : Int32 => r = if 7 ≤ k then 2 else if 7 ≤ k9 then 2 else if (4 ≤ k ∧ 4 ≤ k9) ∨ k = k9 then 0 else 3)) 0 0 (fun _ => False) := by
  refine Met_pw (cc := cX5_refusalOfRows) (maxL := 3) (ret := (some .int)) (by decide) rfl (Nat.le_of_ble_eq_true rfl) ?_
  intro p e s m below meth c ls hsz S9 hr hlk hnm w hl
  subst hsz
  replace S9 : CallFix p m c cX5_refusalOfRows 3 s _ wsX5_refusalOfRows RX5 := S9
  have hx := S9.1
  have hb := S9.2.1
  have hown := S9.2.2.2.1
  have hts := S9.2.2.2.2
  replace hl : lv_has ls 3 [(0, .ref a), (1, .ref a9)] := hl
  refine lv_aload_n hx hb dX5_refusalOfRows_0 rfl (lv_at hl 0 rfl) ?_
  refine lv_ifnull hx hb dX5_refusalOfRows_1 ?_
  refine lv_aload_n hx hb dX5_refusalOfRows_4 rfl (lv_at hl 1 rfl) ?_
  refine lv_ifnonnull (tgt := 10) hx hb dX5_refusalOfRows_5 (by decide) ?_
  refine lv_aload_n hx hb dX5_refusalOfRows_10 rfl (lv_at hl 0 rfl) ?_
  refine r_inst S9 w ha (by decide) 2 (by decide) (by decide +kernel) (v := 1) rfl dX5_refusalOfRows_11 ?_
  refine lv_if_ne (tgt := 24) hx hb dX5_refusalOfRows_14 (by decide) (fun c_14 => ?_) (fun c_14 => absurd c_14 (by decide))
  refine lv_iconst (v := 2) hx hb dX5_refusalOfRows_24 (by decide) ?_
  exact e_i S9 hr hlk (by simp [h0]) dX5_refusalOfRows_25
end
section
/-! WHAT THE PUBLIC METHODS ANSWER, AND THE STATE BEHIND THEM -/
def o_setf (o : Ob) (f : Nat → Int64) : Ob := (o_k o, o_n o, o_v o, f, o_e o)
def o_sete (o : Ob) (e : Nat → Option Nat) : Ob := (o_k o, o_n o, o_v o, o_f o, e)
def s_put (S : St) (h : Nat) (o : Ob) : St := (s_u S, va_up (s_o S) h (some o), s_s S, s_l S, s_c S)
def s_sc (S : St) (f : Nat → Int32) : St := (s_u S, s_o S, s_s S, s_l S, f)
def s_sh (S : St) (f : Nat → Option Nat) : St := (s_u S, s_o S, f, s_l S, s_c S)
def sp_kindOf (S : St) (i : Int32) : Int32 := match obj S (itm S i) with
  | none => -1
  | some o => nI (o_k o)
def sp_length (S : St) (i : Int32) : Int32 := match obj S (itm S i) with
  | none => -1
  | some o => if 7 ≤ o_k o then -2 else nI (o_n o)
def sp_same (S : St) (a b : Int32) : Int32 := match itm S a, itm S b with
  | some h, some h' => if h = h' then 1 else 0
  | _, _ => -1
def sp_count (S : St) (i : Int32) : Int32 := if i = 0 then nI (tkn (s_s S) 400) else if i = 1 then s_c S 1 else if i = 2 then s_c S 0 else if i = 3 then s_c S 5 else if i = 4 then s_c S 6 else -1
def sp_set (S : St) (pl i : Int32) (v : Int64) : Int32 × St := match itm S pl with
  | none => (1, S)
  | some h => match s_o S h with
    | none => (1, S)
    | some o => if ref1 (some o) i 0 3 = 0 then (0, s_put S h (o_setf o (vp_updL (o_f o) i.toNatClampNeg (narK (o_k o) v)))) else (ref1 (some o) i 0 3, S)
def sp_setThing (S : St) (pl i th : Int32) : Int32 × St :=
  if itm S th = none ∧ ¬ th = -1 then (1, S) else match itm S pl with
  | none => (1, S)
  | some h => match s_o S h with
    | none => (1, S)
    | some o => if ref1 (some o) i 4 6 = 0 then (match obj S (itm S th) with
        | none => (0, s_put S h (o_sete o (va_up (o_e o) i.toNatClampNeg (itm S th))))
        | some o' => if (o_k o = 4 ∧ o_k o' = 0) ∨ (o_k o = 5 ∧ (o_k o' = 7 ∨ o_k o' = 8)) ∨ (o_k o = 6 ∧ o_k o' = 8) then (0, s_put S h (o_sete o (va_up (o_e o) i.toNatClampNeg (itm S th)))) else (5, S)) else (ref1 (some o) i 4 6, S)
def sp_get (S : St) (pl i : Int32) : Int64 × St :=
  (match obj S (itm S pl) with
    | none => 0
    | some o => if ref1 (some o) i 0 6 = 0 then (if o_k o ≤ 3 then o_f o i.toNatClampNeg else told (obj S (o_e o i.toNatClampNeg))) else 0, s_sc S (upd (s_c S) 2 (ref1 (obj S (itm S pl)) i 0 6)))
def sp_deep (S : St) (pl i k : Int32) : Int64 × St := match obj S (itm S pl) with
  | none => (0, s_sc S (upd (s_c S) 2 1))
  | some o => if ref1 (some o) i 4 4 = 0 then (match obj S (o_e o i.toNatClampNeg) with
      | none => (0, s_sc S (upd (s_c S) 2 5))
      | some o' => if inE (o_n o') k then (o_f o' k.toNatClampNeg, s_sc S (upd (s_c S) 2 0)) else (0, s_sc S (upd (s_c S) 2 6))) else (0, s_sc S (upd (s_c S) 2 (ref1 (some o) i 4 4)))
def sp_lift (S : St) (pl i : Int32) : Int32 × St := match obj S (itm S pl) with
  | none => (-1, S)
  | some o => if ref1 (some o) i 4 6 = 0 then (match o_e o i.toNatClampNeg with
      | none => (-5, S)
      | some h' => match lowE S with
        | none => (-6, S)
        | some p => (nI p, s_sh S (va_up (s_s S) p (some h')))) else (-(ref1 (some o) i 4 6), S)
def sp_clear (S : St) (pl : Int32) : Int32 × St := match itm S pl with
  | none => (0, S)
  | some _ => (1, s_sh S (va_up (s_s S) pl.toNatClampNeg none))
def s_new (S : St) (p : Nat) (o : Ob) (c : Int32) : St := (s_u S + 1 + o_n o, va_up (s_o S) (s_u S) (some o), va_up (s_s S) p (some (s_u S)), s_l S, upd (s_c S) 1 c)
def sp_row (S : St) (k n : Int32) : Int32 × St :=
  if k < 0 then (-1, S) else if 6 < k then (-1, S) else if 2000 < n then (-2, S) else match lowE S with
  | none => (-2, S)
  | some p => if s_c S 1 < n + 1 then (-2, S) else if n < 0 then (-3, S) else (nI p, s_new S p (k.toNatClampNeg, n.toNatClampNeg, 0, fun _ => 0, fun _ => none) (s_c S 1 - (n + 1)))
def sp_thing (S : St) (k : Nat) (v : Int32) : Int32 × St := match lowE S with
  | none => (-2, S)
  | some p => if s_c S 1 < 1 then (-2, S) else (nI p, s_new S p (k, 0, v, fun _ => 0, fun _ => none) (s_c S 1 - 1))
def sp_plan (S : St) (a i b j n : Int32) : Int32 × St :=
  if 64 ≤ s_c S 0 then (-1, S) else
    (s_c S 0 + 1, (s_u S, s_o S, s_s S, upd (upd (upd (upd (upd (s_l S) ((s_c S 0).toNatClampNeg * 5) a) ((s_c S 0).toNatClampNeg * 5 + 1) i) ((s_c S 0).toNatClampNeg * 5 + 2) b) ((s_c S 0).toNatClampNeg * 5 + 3) j) ((s_c S 0).toNatClampNeg * 5 + 4) n, upd (s_c S) 0 (s_c S 0 + 1)))
/-- an element fits a row of kind k -/
def fitE (S : St) (k : Nat) (r : Option Nat) : Bool := match obj S r with
  | none => true
  | some o => decide ((k = 4 ∧ o_k o = 0) ∨ (k = 5 ∧ (o_k o = 7 ∨ o_k o = 8)) ∨ (k = 6 ∧ o_k o = 8))
/-- how many elements ahead of the first that doesn't fit: of n, from i on -/
def fitN (S : St) (k : Nat) (e : Nat → Option Nat) : Nat → Nat → Nat
  | 0, _ => 0
  | n + 1, i => if fitE S k (e i) then fitN S k e n (i + 1) + 1 else 0
/-- a move's end: (ended, moved, the objects) -/
def mv (S : St) (a i b j n : Int32) : Int32 × Int32 × (Nat → Option Ob) := match itm S a, itm S b with
  | some h, some h' => (match s_o S h, s_o S h' with
    | some o, some o' =>
      if ¬ ref3 (some o) (some o') = 0 then (ref3 (some o) (some o'), 0, s_o S)
      else if ¬ inS (o_n o) i n then (4, 0, s_o S) else if ¬ inS (o_n o') j n then (4, 0, s_o S)
      else if o_k o' ≤ 3 then (0, n, va_up (s_o S) h' (some (o_setf o' (va_cpy (o_f o) (o_f o') i.toNatClampNeg j.toNatClampNeg n.toNatClampNeg))))
      else (if fitN S (o_k o') (o_e o) n.toNatClampNeg i.toNatClampNeg = n.toNatClampNeg then 0 else 5, nI (fitN S (o_k o') (o_e o) n.toNatClampNeg i.toNatClampNeg), va_up (s_o S) h' (some (o_sete o' (va_cpy (o_e o) (o_e o') i.toNatClampNeg j.toNatClampNeg (fitN S (o_k o') (o_e o) n.toNatClampNeg i.toNatClampNeg)))))
    | _, _ => (1, 0, s_o S))
  | _, _ => (1, 0, s_o S)
def mvc (c : Nat → Int32) (r m : Int32) : Nat → Int32 := if r = 0 then upd (upd (upd c 3 m) 4 r) 5 (c 5 + 1) else upd (upd (upd c 3 m) 4 r) 6 (c 6 + 1)
def sp_move (S : St) (a i b j n : Int32) : Int32 × St := ((mv S a i b j n).1, (s_u S, (mv S a i b j n).2.2, s_s S, s_l S, mvc (s_c S) (mv S a i b j n).1 (mv S a i b j n).2.1))
/-- the list from k on, with n left: how many weren't refused in all -/
def runF : Nat → Nat → St → Nat × St
  | 0, k, S => (k, S)
  | n + 1, k, S => if (sp_move S (s_l S (k * 5)) (s_l S (k * 5 + 1)) (s_l S (k * 5 + 2)) (s_l S (k * 5 + 3)) (s_l S (k * 5 + 4))).1 = 0 then runF n (k + 1) (sp_move S (s_l S (k * 5)) (s_l S (k * 5 + 1)) (s_l S (k * 5 + 2)) (s_l S (k * 5 + 3)) (s_l S (k * 5 + 4))).2 else (k, (sp_move S (s_l S (k * 5)) (s_l S (k * 5 + 1)) (s_l S (k * 5 + 2)) (s_l S (k * 5 + 3)) (s_l S (k * 5 + 4))).2)
def sp_run (S : St) : Int32 × St := (nI (runF (s_c S 0).toNatClampNeg 0 S).1, s_sc (runF (s_c S 0).toNatClampNeg 0 S).2 (upd (s_c (runF (s_c S 0).toNatClampNeg 0 S).2) 0 0))
/-- what a digest takes of an element -/
def dgE (S : St) (r : Option Nat) : Int64 := match obj S r with
  | none => 0
  | some o => if o_k o ≤ 3 then dgN o else told (some o)
def dgO (S : St) (k : Nat) (e : Nat → Option Nat) : Nat → Int64
  | 0 => (nI k + 1).toInt64
  | i + 1 => 31 * dgO S k e i + dgE S (e i)
def sp_digest (S : St) (pl : Int32) : Int64 := match obj S (itm S pl) with
  | none => 0
  | some o => if o_k o ≤ 3 then dgN o else if o_k o ≤ 6 then dgO S (o_k o) (o_e o) (o_n o) else 31 * (nI (o_k o) + 1).toInt64 + (o_v o).toInt64
/-! reps behind a change -/
theorem va_up_eq {α : Type} {f : Nat → α} {k : Nat} {v : α} : va_up f k v k = v := va_up_self f k v
theorem ObX.nn {G : Gt} {ad ar : Nat → Nat} {A : Nat → Prop} {ws : va_W} {h h' : Nat} {o o' : Ob} (hD : va_D A ws) (hO : ObX G ad ar ws h o) (hO' : ObX G ad ar ws h' o') (hk : o_k o' ≤ 6) : ad h ≠ ar h' := by
  obtain ⟨dk, kd, q1, -⟩ := hO
  obtain ⟨dk', kd', -, -, q3, q4⟩ := hO'
  by_cases h3 : o_k o' ≤ 3
  · exact hp_ne_of hD q1 (q3 h3) (fun q => by cases q)
  · exact hp_ne_of hD q1 (q4 (by omega) hk) (fun q => by cases q)
/-- the numbers of a row change, its digest is forgotten -/
theorem RpX.num {G : Gt} {x sh li : Nat} {ad ar : Nat → Nat} {S : St} {A : Nat → Prop} {ws ws1 ws2 : va_W} {h : Nat} {o : Ob} {f : Nat → Int64} {kd : Int64} (hD : va_D A ws) (hR : RpX G x sh li ad ar S ws) (ho : s_o S h = some o) (hk : o_k o ≤ 3) (u1 : hu ws (ar h) (aJ G (o_n o) f) ws1) (u2 : hu ws1 (ad h) (.inr (0, [.int (nI (o_n o)), .int (nI (o_k o)), .ref (ar h), .int 0, .long kd])) ws2) : RpX G x sh li ad ar (s_put S h (o_setf o f)) ws2 := by
  obtain ⟨h1, h2, h3, h4, h5, h6⟩ := hR
  have hO := h4 h o ho
  have nx := hO.ne_x hD h1 (Nat.le_refl 3)
  have ni := hO.ne_i hD h3
  have nn := hO.nn hD hO (by omega)
  have n2 : ad h ≠ sh := by
    obtain ⟨dk, kd, q1, -⟩ := hO
    exact hp_ne_of hD q1 h2 (fun q => by cases q)
  refine ⟨u2.keep nx.1.symm (u1.keep (nx.2 (by omega)).symm h1), u2.keep n2.symm (u1.keep (h6 h o ho (by omega)).symm h2), u2.keep ni.1.symm (u1.keep (ni.2 (by omega)).symm h3), fun a oa ha => ?_, fun a a' oa oa' ha ha' hn => ?_, fun a oa ha hka => ?_⟩
  · by_cases hah : a = h
    · subst hah
      have e : oa = o_setf o f := by
        have := ha.symm.trans (va_up_eq (f := s_o S) (k := a) (v := some (o_setf o f)))
        cases this
        rfl
      subst e
      refine ⟨0, kd, ?_, Or.inl rfl, fun _ => u2.keep nn.symm u1.1, fun z => ?_⟩
      · rw [o_num (o := o_setf o f) hk]
        exact u2.1
      · exact absurd (show 4 ≤ o_k o from z) (by omega)
    · have ha0 : s_o S a = some oa := by rw [← ha]; exact (va_up_ne (s_o S) _ hah).symm
      have hO' := h4 a oa ha0
      have hne := h5 a h oa o ha0 ho hah
      refine (hO'.keep u1 (hO'.nn hD hO (by omega)) (fun z => hne.2 z (by omega))).keep u2 hne.1 (fun z => (hO.nn hD hO' z).symm)
  · have key : ∀ {b : Nat} {ob : Ob}, s_o (s_put S h (o_setf o f)) b = some ob → ∃ ob0, s_o S b = some ob0 ∧ o_k ob0 = o_k ob := by
      intro b ob hb
      by_cases hbh : b = h
      · subst hbh
        have := hb.symm.trans (va_up_eq (f := s_o S) (k := b) (v := some (o_setf o f)))
        cases this
        exact ⟨o, ho, rfl⟩
      · exact ⟨ob, by rw [← hb]; exact (va_up_ne (s_o S) _ hbh).symm, rfl⟩
    obtain ⟨o1, g1, g2⟩ := key ha
    obtain ⟨o2, g3, g4⟩ := key ha'
    have := h5 a a' o1 o2 g1 g3 hn
    exact ⟨this.1, fun z z' => this.2 (by omega) (by omega)⟩
  · by_cases hah : a = h
    · subst hah
      exact h6 a o ho (by omega)
    · exact h6 a oa (by rw [← ha]; exact (va_up_ne (s_o S) _ hah).symm) hka
/-- the elements of a row change -/
theorem RpX.els {G : Gt} {x sh li : Nat} {ad ar : Nat → Nat} {S : St} {A : Nat → Prop} {ws ws1 : va_W} {h : Nat} {o : Ob} {f : Nat → Option Nat} {E : va_E} (hD : va_D A ws) (hR : RpX G x sh li ad ar S ws) (ho : s_o S h = some o) (hk : 4 ≤ o_k o) (hk6 : o_k o ≤ 6) (u1 : hu ws (ar h) E ws1) (hE : E = aT G (o_n o) (fun i => (f i).map ad)) : RpX G x sh li ad ar (s_put S h (o_sete o f)) ws1 := by
  subst hE
  obtain ⟨h1, h2, h3, h4, h5, h6⟩ := hR
  have hO := h4 h o ho
  have nx := hO.ne_x hD h1 (Nat.le_refl 3)
  have ni := hO.ne_i hD h3
  have nn := hO.nn hD hO (by omega)
  refine ⟨u1.keep (nx.2 hk6).symm h1, u1.keep (h6 h o ho hk6).symm h2, u1.keep (ni.2 hk6).symm h3, fun a oa ha => ?_, fun a a' oa oa' ha ha' hn => ?_, fun a oa ha hka => ?_⟩
  · by_cases hah : a = h
    · subst hah
      have e : oa = o_sete o f := by
        have := ha.symm.trans (va_up_eq (f := s_o S) (k := a) (v := some (o_sete o f)))
        cases this
        rfl
      subst e
      obtain ⟨dk, kd, q1, q2, q3, q4⟩ := hO
      refine ⟨0, kd, ?_, Or.inl rfl, fun z => ?_, fun _ _ => u1.1⟩
      · rw [o_obj (o := o_sete o f) hk hk6]
        rw [o_obj hk hk6] at q1
        exact u1.keep nn q1
      · exact absurd (show o_k o ≤ 3 from z) (by omega)
    · have ha0 : s_o S a = some oa := by rw [← ha]; exact (va_up_ne (s_o S) _ hah).symm
      have hO' := h4 a oa ha0
      have hne := h5 a h oa o ha0 ho hah
      exact hO'.keep u1 (hO'.nn hD hO hk6) (fun z => hne.2 z hk6)
  · have key : ∀ {b : Nat} {ob : Ob}, s_o (s_put S h (o_sete o f)) b = some ob → ∃ ob0, s_o S b = some ob0 ∧ o_k ob0 = o_k ob := by
      intro b ob hb
      by_cases hbh : b = h
      · subst hbh
        have := hb.symm.trans (va_up_eq (f := s_o S) (k := b) (v := some (o_sete o f)))
        cases this
        exact ⟨o, ho, rfl⟩
      · exact ⟨ob, by rw [← hb]; exact (va_up_ne (s_o S) _ hbh).symm, rfl⟩
    obtain ⟨o1, g1, g2⟩ := key ha
    obtain ⟨o2, g3, g4⟩ := key ha'
    have := h5 a a' o1 o2 g1 g3 hn
    exact ⟨this.1, fun z z' => this.2 (by omega) (by omega)⟩
  · by_cases hah : a = h
    · subst hah
      exact h6 a o ho hk6
    · exact h6 a oa (by rw [← ha]; exact (va_up_ne (s_o S) _ hah).symm) hka
/-- a digest is kept -/
theorem RpX.dig {G : Gt} {x sh li : Nat} {ad ar : Nat → Nat} {S : St} {A : Nat → Prop} {ws ws1 : va_W} {h : Nat} {o : Ob} (hD : va_D A ws) (hR : RpX G x sh li ad ar S ws) (ho : s_o S h = some o) (hk : o_k o ≤ 3) (u1 : hu ws (ad h) (.inr (0, [.int (nI (o_n o)), .int (nI (o_k o)), .ref (ar h), .int 1, .long (dgN o)])) ws1) : RpX G x sh li ad ar S ws1 := by
  obtain ⟨h1, h2, h3, h4, h5, h6⟩ := hR
  have hO := h4 h o ho
  have nx := hO.ne_x hD h1 (Nat.le_refl 3)
  have ni := hO.ne_i hD h3
  have nn := hO.nn hD hO (by omega)
  have n2 : ad h ≠ sh := by
    obtain ⟨dk, kd, q1, -⟩ := hO
    exact hp_ne_of hD q1 h2 (fun q => by cases q)
  refine ⟨u1.keep nx.1.symm h1, u1.keep n2.symm h2, u1.keep ni.1.symm h3, fun a oa ha => ?_, h5, h6⟩
  by_cases hah : a = h
  · subst hah
    have e : oa = o := by rw [ho] at ha; cases ha; rfl
    subst e
    obtain ⟨dk, kd, q1, q2, q3, q4⟩ := hO
    refine ⟨1, dgN oa, ?_, Or.inr ⟨rfl, rfl⟩, fun z => u1.keep nn.symm (q3 z), fun z => absurd z (by omega)⟩
    rw [o_num hk]
    exact u1.1
  · have hne := h5 a h oa o ha ho hah
    exact (h4 a oa ha).keep u1 hne.1 (fun z => (hO.nn hD (h4 a oa ha) z).symm)
end
section
section PUB0
variable {p : Program} {l : Launch} {e : Env} {R : Room} {s : State} {m : MethodId} {args : Array Value} {below : List Frame} {meth : Method} {c : Code} {H : Heap} {locs : List Loc} {cells slots : Nat} {Q : State → Prop}
variable {cc : ByteArray} {nL pc : Nat} {ls : Array Slot} {rest st0 : List Value} {Ts : List Cond} {G : Gt} {A : Nat → Prop} {ws : va_W} {x sh li : Nat} {ad ar : Nat → Nat} {S : St}
theorem itm_o (hI : Inv S) {i : Int32} {h : Nat} (hi : itm S i = some h) : ∃ o, s_o S h = some o := by
  unfold itm at hi
  split at hi
  · cases hi
  · split at hi
    · cases hi
    · exact hI.2.2.2.2.2.1 _ _ hi
/-- itemAt, called -/
theorem kx_itemAt (S9 : CallFix p m c cc nL s args Ts RX5) (w : Wd G A s ws H locs) (hR : RpX G x sh li ad ar S ws) (hI : Inv S) {i : Int32} (hg : GoodIn Ts (wsV RX5 58 RX5 yX5_itemAt wsX5_itemAt)) (hsz : ls.size = nL) (hro : (rest.map fun v => v.category).sum ≤ 8) (hdg : decode cc pc = .ok (.invokevirtual 58, 3)) (hR0 : 1 ≤ R.frames ∧ 21 ≤ R.locals) (hf : cells ≤ R.cells ∧ slots ≤ R.slots)
    (kn : itm S i = none → W p l e R s m args below meth c H locs cells slots Q (F0 m (pc + 3) ls (.null :: rest))) (ks : ∀ (h : Nat) (o : Ob), itm S i = some h → s_o S h = some o → W p l e R s m args below meth c H locs cells slots Q (F0 m (pc + 3) ls (.ref (ad h) :: rest))) : W p l e R s m args below meth c H locs cells slots Q (F0 m pc ls (.int i :: .ref x :: rest)) := by
  refine k_vq S9 w (c_itemAt l _ hR i) hR.1 rfl (cwV 1 S9.2.2.2.2 hg rfl rfl rfl (by decide +kernel) hR0) rfl hsz rfl hro hdg hf (fun r hr => ?_)
  subst hr
  cases hi : itm S i with
  | none => exact kn hi
  | some h =>
    obtain ⟨o, ho⟩ := itm_o hI hi
    exact ks h o hi ho
theorem kx_low (S9 : CallFix p m c cc nL s args Ts RX5) (w : Wd G A s ws H locs) (hR : RpX G x sh li ad ar S ws) (hg : GoodIn Ts (wsV RX5 42 RX5 yX5_lowestEmptyPlace wsX5_lowestEmptyPlace)) (hsz : ls.size = nL) (hro : (rest.map fun v => v.category).sum ≤ 8) (hdg : decode cc pc = .ok (.invokevirtual 42, 3)) (hR0 : 1 ≤ R.frames ∧ 21 ≤ R.locals) (hf : cells ≤ R.cells ∧ slots ≤ R.slots)
    (kk : ∀ r : Int32, r = pI (lowE S) → W p l e R s m args below meth c H locs cells slots Q (F0 m (pc + 3) ls (.int r :: rest))) : W p l e R s m args below meth c H locs cells slots Q (F0 m pc ls (.ref x :: rest)) :=
  k_vi S9 w (c_lowestEmptyPlace l _ hR) hR.1 rfl (cwV 0 S9.2.2.2.2 hg rfl rfl rfl (by decide +kernel) hR0) rfl hsz rfl hro hdg hf kk
end PUB0
theorem obj_some {S : St} {i : Int32} {h : Nat} {o : Ob} (hi : itm S i = some h) (ho : s_o S h = some o) : obj S (itm S i) = some o := by
  rw [hi]
  exact ho
theorem obj_none {S : St} {i : Int32} (hi : itm S i = none) : obj S (itm S i) = none := by
  rw [hi]
  rfl
theorem low0_lt {f : Nat → Option Nat} : ∀ {n k p : Nat}, low0 f n k = some p → k ≤ p ∧ p < k + n ∧ f p = none
  | 0, k, p, h => by simp [low0] at h
  | n + 1, k, p, h => by
    unfold low0 at h
    cases hf : f k with
    | none =>
      simp [hf] at h
      subst h
      exact ⟨Nat.le_refl _, by omega, hf⟩
    | some y =>
      simp [hf] at h
      have := low0_lt h
      exact ⟨by omega, by omega, this.2.2⟩
theorem lowE_lt {S : St} {p : Nat} (h : lowE S = some p) : p < 400 ∧ s_s S p = none := by
  have := low0_lt h
  exact ⟨by omega, this.2.2⟩
end
section
set_option maxHeartbeats 4000000 in
set_option maxRecDepth 100000 in
theorem c_kindOf (l : Launch) {G : Gt} {ws : va_W} (sz : Nat) {x sh li : Nat} {ad ar : Nat → Nat} {S : St} (hR : RpX G x sh li ad ar S ws) (hI : Inv S) (i : Int32) : Met l yX5_kindOf wsX5_kindOf ({ frames := 1, cells := 0, slots := 0, locals := 21 } : Room) (Pw G [.ref x, .int i] ws sz) (vp_Si (fun r : Int32 => r = sp_kindOf S i)) 0 0 (fun _ => False) := by
  refine Met_pw (cc := cX5_kindOf) (maxL := 3) (ret := (some .int)) (by decide) rfl (Nat.le_of_ble_eq_true rfl) ?_
  intro p e s m below meth c ls hsz S9 hr hlk hnm w hl
  subst hsz
  replace S9 : CallFix p m c cX5_kindOf 3 s _ wsX5_kindOf RX5 := S9
  have hx := S9.1
  have hb := S9.2.1
  have hown := S9.2.2.2.1
  have hts := S9.2.2.2.2
  replace hl : lv_has ls 3 [(0, .ref x), (1, .int i)] := hl
  refine lv_aload_n hx hb dX5_kindOf_0 rfl (lv_at hl 0 rfl) ?_
  refine lv_iload_n hx hb dX5_kindOf_1 rfl (lv_at hl 1 rfl) ?_
  refine kx_itemAt S9 w hR hI gX5_kindOf_X5_itemAt hl.1 (Nat.le_of_ble_eq_true rfl) dX5_kindOf_2 ⟨Nat.le_of_ble_eq_true rfl, Nat.le_of_ble_eq_true rfl⟩ ⟨Nat.le_of_ble_eq_true rfl, Nat.le_of_ble_eq_true rfl⟩ (fun i_2 => ?_) (fun h o i_2 ho => ?_)
  · refine lv_astore_nN (lv' := [(2, .null), (0, .ref x), (1, .int i)]) hx hb dX5_kindOf_5 rfl hl (by decide) rfl (fun ls hl => ?_)
    refine lv_aload_nN hx hb dX5_kindOf_6 rfl (lv_at hl 0 rfl) ?_
    refine lv_ifnonnullN hx hb dX5_kindOf_7 ?_
    refine lv_iconst (v := (-1)) hx hb dX5_kindOf_10 (by decide) ?_
    refine lv_goto (tgt := 18) hx hb dX5_kindOf_11 (by decide) ?_
    exact e_i S9 hr hlk (by simp [sp_kindOf, obj_none i_2]) dX5_kindOf_18
  · obtain ⟨dk, kd, q1, q2, q3, q4⟩ := hR.2.2.2.1 h o ho
    rcases (show o_k o ≤ 3 ∨ (4 ≤ o_k o ∧ o_k o ≤ 6) ∨ 7 ≤ o_k o by omega) with hk | ⟨hk, hm⟩ | hk
    · rw [o_num hk] at q1
      refine lv_astore_n (lv' := [(2, .ref (ad h)), (0, .ref x), (1, .int i)]) hx hb dX5_kindOf_5 rfl hl (by decide) rfl (fun ls hl => ?_)
      refine lv_aload_n hx hb dX5_kindOf_6 rfl (lv_at hl 0 rfl) ?_
      refine lv_ifnonnull (tgt := 14) hx hb dX5_kindOf_7 (by decide) ?_
      refine lv_aload_n hx hb dX5_kindOf_14 rfl (lv_at hl 0 rfl) ?_
      refine r_get (ref := "SpanMover$Item") S9 w q1 rfl (by decide +kernel) 1 (by decide) (by decide +kernel) (Or.inl rfl) rfl dX5_kindOf_15 ?_
      exact e_i S9 hr hlk (by simp [sp_kindOf, obj_some i_2 ho, show ¬ 7 ≤ o_k o by omega]) dX5_kindOf_18
    · rw [o_obj hk hm] at q1
      refine lv_astore_n (lv' := [(2, .ref (ad h)), (0, .ref x), (1, .int i)]) hx hb dX5_kindOf_5 rfl hl (by decide) rfl (fun ls hl => ?_)
      refine lv_aload_n hx hb dX5_kindOf_6 rfl (lv_at hl 0 rfl) ?_
      refine lv_ifnonnull (tgt := 14) hx hb dX5_kindOf_7 (by decide) ?_
      refine lv_aload_n hx hb dX5_kindOf_14 rfl (lv_at hl 0 rfl) ?_
      refine r_get (ref := "SpanMover$Item") S9 w q1 rfl (by decide +kernel) 1 (by decide) (by decide +kernel) (Or.inl rfl) rfl dX5_kindOf_15 ?_
      exact e_i S9 hr hlk (by simp [sp_kindOf, obj_some i_2 ho, show ¬ 7 ≤ o_k o by omega]) dX5_kindOf_18
    · rw [o_thg hk] at q1
      refine lv_astore_n (lv' := [(2, .ref (ad h)), (0, .ref x), (1, .int i)]) hx hb dX5_kindOf_5 rfl hl (by decide) rfl (fun ls hl => ?_)
      refine lv_aload_n hx hb dX5_kindOf_6 rfl (lv_at hl 0 rfl) ?_
      refine lv_ifnonnull (tgt := 14) hx hb dX5_kindOf_7 (by decide) ?_
      refine lv_aload_n hx hb dX5_kindOf_14 rfl (lv_at hl 0 rfl) ?_
      refine r_get (ref := "SpanMover$Item") S9 w q1 rfl (by decide +kernel) 0 (by decide) (by decide +kernel) (Or.inl rfl) rfl dX5_kindOf_15 ?_
      exact e_i S9 hr hlk (by simp [sp_kindOf, obj_some i_2 ho, hk]) dX5_kindOf_18

set_option maxHeartbeats 4000000 in
set_option maxRecDepth 100000 in
theorem c_length (l : Launch) {G : Gt} {ws : va_W} (sz : Nat) {x sh li : Nat} {ad ar : Nat → Nat} {S : St} (hR : RpX G x sh li ad ar S ws) (hI : Inv S) (i : Int32) : Met l yX5_length wsX5_length ({ frames := 1, cells := 0, slots := 0, locals := 21 } : Room) (Pw G [.ref x, .int i] ws sz) (vp_Si (fun r : Int32 => r = sp_length S i)) 0 0 (fun _ => False) := by
  refine Met_pw (cc := cX5_length) (maxL := 4) (ret := (some .int)) (by decide) rfl (Nat.le_of_ble_eq_true rfl) ?_
  intro p e s m below meth c ls hsz S9 hr hlk hnm w hl
  subst hsz
  replace S9 : CallFix p m c cX5_length 4 s _ wsX5_length RX5 := S9
  have hx := S9.1
  have hb := S9.2.1
  have hown := S9.2.2.2.1
  have hts := S9.2.2.2.2
  replace hl : lv_has ls 4 [(0, .ref x), (1, .int i)] := hl
  refine lv_aload_n hx hb dX5_length_0 rfl (lv_at hl 0 rfl) ?_
  refine lv_iload_n hx hb dX5_length_1 rfl (lv_at hl 1 rfl) ?_
  refine kx_itemAt S9 w hR hI gX5_length_X5_itemAt hl.1 (Nat.le_of_ble_eq_true rfl) dX5_length_2 ⟨Nat.le_of_ble_eq_true rfl, Nat.le_of_ble_eq_true rfl⟩ ⟨Nat.le_of_ble_eq_true rfl, Nat.le_of_ble_eq_true rfl⟩ (fun i_2 => ?_) (fun h o i_2 ho => ?_)
  · refine lv_astore_nN (lv' := [(2, .null), (0, .ref x), (1, .int i)]) hx hb dX5_length_5 rfl hl (by decide) rfl (fun ls hl => ?_)
    refine lv_aload_nN hx hb dX5_length_6 rfl (lv_at hl 0 rfl) ?_
    refine lv_ifnonnullN hx hb dX5_length_7 ?_
    refine lv_iconst (v := (-1)) hx hb dX5_length_10 (by decide) ?_
    exact e_i S9 hr hlk (by simp [sp_length, obj_none i_2]) dX5_length_11
  · obtain ⟨dk, kd, q1, q2, q3, q4⟩ := hR.2.2.2.1 h o ho
    rcases (show o_k o ≤ 3 ∨ (4 ≤ o_k o ∧ o_k o ≤ 6) ∨ 7 ≤ o_k o by omega) with hk | ⟨hk, hm⟩ | hk
    · rw [o_num hk] at q1
      refine lv_astore_n (lv' := [(2, .ref (ad h)), (0, .ref x), (1, .int i)]) hx hb dX5_length_5 rfl hl (by decide) rfl (fun ls hl => ?_)
      refine lv_aload_n hx hb dX5_length_6 rfl (lv_at hl 0 rfl) ?_
      refine lv_ifnonnull (tgt := 12) hx hb dX5_length_7 (by decide) ?_
      refine lv_aload_n hx hb dX5_length_12 rfl (lv_at hl 0 rfl) ?_
      refine r_inst S9 w q1 (by decide) 3 (by decide) (by decide +kernel) (v := 1) rfl dX5_length_13 ?_
      refine lv_if_eq (tgt := 31) hx hb dX5_length_16 (by decide) (fun c_16 => absurd c_16 (by decide)) (fun c_16 => ?_)
      refine lv_aload_n hx hb dX5_length_19 rfl (lv_at hl 0 rfl) ?_
      refine r_cast S9 w q1 (by decide) 3 (by decide) rfl (by decide +kernel) dX5_length_20 ?_
      refine lv_astore_n (lv' := [(3, .ref (ad h)), (2, .ref (ad h)), (0, .ref x), (1, .int i)]) hx hb dX5_length_23 rfl hl (by decide) rfl (fun ls hl => ?_)
      refine lv_aload_n hx hb dX5_length_24 rfl (lv_at hl 0 rfl) ?_
      refine r_get (ref := "SpanMover$Row") S9 w q1 rfl (by decide +kernel) 0 (by decide) (by decide +kernel) (Or.inl rfl) rfl dX5_length_25 ?_
      refine lv_goto (tgt := 33) hx hb dX5_length_28 (by decide) ?_
      exact e_i S9 hr hlk (by simp [sp_length, obj_some i_2 ho, show ¬ 7 ≤ o_k o by omega]) dX5_length_33
    · rw [o_obj hk hm] at q1
      refine lv_astore_n (lv' := [(2, .ref (ad h)), (0, .ref x), (1, .int i)]) hx hb dX5_length_5 rfl hl (by decide) rfl (fun ls hl => ?_)
      refine lv_aload_n hx hb dX5_length_6 rfl (lv_at hl 0 rfl) ?_
      refine lv_ifnonnull (tgt := 12) hx hb dX5_length_7 (by decide) ?_
      refine lv_aload_n hx hb dX5_length_12 rfl (lv_at hl 0 rfl) ?_
      refine r_inst S9 w q1 (by decide) 3 (by decide) (by decide +kernel) (v := 1) rfl dX5_length_13 ?_
      refine lv_if_eq (tgt := 31) hx hb dX5_length_16 (by decide) (fun c_16 => absurd c_16 (by decide)) (fun c_16 => ?_)
      refine lv_aload_n hx hb dX5_length_19 rfl (lv_at hl 0 rfl) ?_
      refine r_cast S9 w q1 (by decide) 3 (by decide) rfl (by decide +kernel) dX5_length_20 ?_
      refine lv_astore_n (lv' := [(3, .ref (ad h)), (2, .ref (ad h)), (0, .ref x), (1, .int i)]) hx hb dX5_length_23 rfl hl (by decide) rfl (fun ls hl => ?_)
      refine lv_aload_n hx hb dX5_length_24 rfl (lv_at hl 0 rfl) ?_
      refine r_get (ref := "SpanMover$Row") S9 w q1 rfl (by decide +kernel) 0 (by decide) (by decide +kernel) (Or.inl rfl) rfl dX5_length_25 ?_
      refine lv_goto (tgt := 33) hx hb dX5_length_28 (by decide) ?_
      exact e_i S9 hr hlk (by simp [sp_length, obj_some i_2 ho, show ¬ 7 ≤ o_k o by omega]) dX5_length_33
    · rw [o_thg hk] at q1
      refine lv_astore_n (lv' := [(2, .ref (ad h)), (0, .ref x), (1, .int i)]) hx hb dX5_length_5 rfl hl (by decide) rfl (fun ls hl => ?_)
      refine lv_aload_n hx hb dX5_length_6 rfl (lv_at hl 0 rfl) ?_
      refine lv_ifnonnull (tgt := 12) hx hb dX5_length_7 (by decide) ?_
      refine lv_aload_n hx hb dX5_length_12 rfl (lv_at hl 0 rfl) ?_
      refine r_inst S9 w q1 (by decide) 3 (by decide) (by decide +kernel) (v := 0) rfl dX5_length_13 ?_
      refine lv_if_eq (tgt := 31) hx hb dX5_length_16 (by decide) (fun c_16 => ?_) (fun c_16 => absurd c_16 (by decide))
      refine lv_bipush (v := (-2)) hx hb dX5_length_31 (by decide) ?_
      exact e_i S9 hr hlk (by simp [sp_length, obj_some i_2 ho, hk]) dX5_length_33

set_option maxHeartbeats 4000000 in
set_option maxRecDepth 100000 in
theorem c_same (l : Launch) {G : Gt} {ws : va_W} (sz : Nat) {x sh li : Nat} {ad ar : Nat → Nat} {S : St} (hR : RpX G x sh li ad ar S ws) (hI : Inv S) (i j : Int32) : Met l yX5_same wsX5_same ({ frames := 1, cells := 0, slots := 0, locals := 21 } : Room) (Pw G [.ref x, .int i, .int j] ws sz) (vp_Si (fun r : Int32 => r = sp_same S i j)) 0 0 (fun _ => False) := by
  refine Met_pw (cc := cX5_same) (maxL := 5) (ret := (some .int)) (by decide) rfl (Nat.le_of_ble_eq_true rfl) ?_
  intro p e s m below meth c ls hsz S9 hr hlk hnm w hl
  subst hsz
  replace S9 : CallFix p m c cX5_same 5 s _ wsX5_same RX5 := S9
  have hx := S9.1
  have hb := S9.2.1
  have hown := S9.2.2.2.1
  have hts := S9.2.2.2.2
  replace hl : lv_has ls 5 [(0, .ref x), (1, .int i), (2, .int j)] := hl
  refine lv_aload_n hx hb dX5_same_0 rfl (lv_at hl 0 rfl) ?_
  refine lv_iload_n hx hb dX5_same_1 rfl (lv_at hl 1 rfl) ?_
  refine kx_itemAt S9 w hR hI gX5_same_X5_itemAt hl.1 (Nat.le_of_ble_eq_true rfl) dX5_same_2 ⟨Nat.le_of_ble_eq_true rfl, Nat.le_of_ble_eq_true rfl⟩ ⟨Nat.le_of_ble_eq_true rfl, Nat.le_of_ble_eq_true rfl⟩ (fun i_2 => ?_) (fun h o i_2 ho => ?_)
  · refine lv_astore_nN (lv' := [(3, .null), (0, .ref x), (1, .int i), (2, .int j)]) hx hb dX5_same_5 rfl hl (by decide) rfl (fun ls hl => ?_)
    refine lv_aload_n hx hb dX5_same_6 rfl (lv_at hl 1 rfl) ?_
    refine lv_iload_n hx hb dX5_same_7 rfl (lv_at hl 3 rfl) ?_
    refine kx_itemAt S9 w hR hI gX5_same_X5_itemAt hl.1 (Nat.le_of_ble_eq_true rfl) dX5_same_8 ⟨Nat.le_of_ble_eq_true rfl, Nat.le_of_ble_eq_true rfl⟩ ⟨Nat.le_of_ble_eq_true rfl, Nat.le_of_ble_eq_true rfl⟩ (fun i_8 => ?_) (fun h9 o9 i_8 ho9 => ?_)
    · refine lv_astoreN (lv' := [(4, .null), (3, .null), (0, .ref x), (1, .int i), (2, .int j)]) hx hb dX5_same_11 hl (by decide) rfl (fun ls hl => ?_)
      refine lv_aload_nN hx hb dX5_same_13 rfl (lv_at hl 1 rfl) ?_
      refine lv_ifnullN (tgt := 22) hx hb dX5_same_14 (by decide) ?_
      refine lv_iconst (v := (-1)) hx hb dX5_same_22 (by decide) ?_
      exact e_i S9 hr hlk (by simp [sp_same, i_2]) dX5_same_23
    · refine lv_astore (lv' := [(4, .ref (ad h9)), (3, .null), (0, .ref x), (1, .int i), (2, .int j)]) hx hb dX5_same_11 hl (by decide) rfl (fun ls hl => ?_)
      refine lv_aload_nN hx hb dX5_same_13 rfl (lv_at hl 1 rfl) ?_
      refine lv_ifnullN (tgt := 22) hx hb dX5_same_14 (by decide) ?_
      refine lv_iconst (v := (-1)) hx hb dX5_same_22 (by decide) ?_
      exact e_i S9 hr hlk (by simp [sp_same, i_2]) dX5_same_23
  · refine lv_astore_n (lv' := [(3, .ref (ad h)), (0, .ref x), (1, .int i), (2, .int j)]) hx hb dX5_same_5 rfl hl (by decide) rfl (fun ls hl => ?_)
    refine lv_aload_n hx hb dX5_same_6 rfl (lv_at hl 1 rfl) ?_
    refine lv_iload_n hx hb dX5_same_7 rfl (lv_at hl 3 rfl) ?_
    refine kx_itemAt S9 w hR hI gX5_same_X5_itemAt hl.1 (Nat.le_of_ble_eq_true rfl) dX5_same_8 ⟨Nat.le_of_ble_eq_true rfl, Nat.le_of_ble_eq_true rfl⟩ ⟨Nat.le_of_ble_eq_true rfl, Nat.le_of_ble_eq_true rfl⟩ (fun i_8 => ?_) (fun h9 o9 i_8 ho9 => ?_)
    · refine lv_astoreN (lv' := [(4, .null), (3, .ref (ad h)), (0, .ref x), (1, .int i), (2, .int j)]) hx hb dX5_same_11 hl (by decide) rfl (fun ls hl => ?_)
      refine lv_aload_n hx hb dX5_same_13 rfl (lv_at hl 1 rfl) ?_
      refine lv_ifnull hx hb dX5_same_14 ?_
      refine lv_aloadN hx hb dX5_same_17 (lv_at hl 0 rfl) ?_
      refine lv_ifnonnullN hx hb dX5_same_19 ?_
      refine lv_iconst (v := (-1)) hx hb dX5_same_22 (by decide) ?_
      exact e_i S9 hr hlk (by simp [sp_same, i_2, i_8]) dX5_same_23
    · refine lv_astore (lv' := [(4, .ref (ad h9)), (3, .ref (ad h)), (0, .ref x), (1, .int i), (2, .int j)]) hx hb dX5_same_11 hl (by decide) rfl (fun ls hl => ?_)
      refine lv_aload_n hx hb dX5_same_13 rfl (lv_at hl 1 rfl) ?_
      refine lv_ifnull hx hb dX5_same_14 ?_
      refine lv_aload hx hb dX5_same_17 (lv_at hl 0 rfl) ?_
      refine lv_ifnonnull (tgt := 24) hx hb dX5_same_19 (by decide) ?_
      refine lv_aload_n hx hb dX5_same_24 rfl (lv_at hl 1 rfl) ?_
      refine lv_aload hx hb dX5_same_25 (lv_at hl 0 rfl) ?_
      refine lv_acmp_ne (tgt := 34) (rx := some (ad h)) (ry := some (ad h9)) hx hb dX5_same_27 (by decide) (fun c_27 => ?_) (fun c_27 => ?_)
      · refine lv_iconst (v := 0) hx hb dX5_same_34 (by decide) ?_
        exact e_i S9 hr hlk (by simp at c_27; simp [sp_same, i_2, i_8]; intro q; subst q; exact absurd rfl c_27) dX5_same_35
      · refine lv_iconst (v := 1) hx hb dX5_same_30 (by decide) ?_
        refine lv_goto (tgt := 35) hx hb dX5_same_31 (by decide) ?_
        exact e_i S9 hr hlk (by simp at c_27; simp [sp_same, i_2, i_8]; by_cases q : h = h9; exact q; exact absurd c_27 (hR.2.2.2.2.1 h h9 o o9 ho ho9 q).1) dX5_same_35

set_option maxHeartbeats 4000000 in
set_option maxRecDepth 100000 in
theorem c_count (l : Launch) {G : Gt} {ws : va_W} (sz : Nat) {x sh li : Nat} {ad ar : Nat → Nat} {S : St} (hR : RpX G x sh li ad ar S ws) (i : Int32) : Met l yX5_count wsX5_count ({ frames := 1, cells := 0, slots := 0, locals := 25 } : Room) (Pw G [.ref x, .int i] ws sz) (vp_Si (fun r : Int32 => r = sp_count S i)) 0 0 (fun _ => False) := by
  refine Met_pw (cc := cX5_count) (maxL := 2) (ret := (some .int)) (by decide) rfl (Nat.le_of_ble_eq_true rfl) ?_
  intro p e s m below meth c ls hsz S9 hr hlk hnm w hl
  subst hsz
  replace S9 : CallFix p m c cX5_count 2 s _ wsX5_count RX5 := S9
  have hx := S9.1
  have hb := S9.2.1
  have hown := S9.2.2.2.1
  have hts := S9.2.2.2.2
  replace hl : lv_has ls 2 [(0, .ref x), (1, .int i)] := hl
  refine lv_iload_n hx hb dX5_count_0 rfl (lv_at hl 1 rfl) ?_
  rcases sw5 i with rfl | rfl | rfl | rfl | rfl | hi
  · refine lv_tableIn (off := 35) (tgt := 36) hx hb dX5_count_1 (by decide) (by decide) (by decide) (by decide) ?_
    refine lv_aload_n hx hb dX5_count_36 rfl (lv_at hl 0 rfl) ?_
    refine k_vi S9 w (c_takenPlaces l _ hR) hR.1 rfl (cwV 0 hts gX5_count_X5_takenPlaces rfl rfl rfl (by decide +kernel) ⟨Nat.le_of_ble_eq_true rfl, Nat.le_of_ble_eq_true rfl⟩) rfl hl.1 rfl (Nat.le_of_ble_eq_true rfl) dX5_count_37 ⟨Nat.le_of_ble_eq_true rfl, Nat.le_of_ble_eq_true rfl⟩ (fun v7 e7 => ?_)
    exact e_i S9 hr hlk (by rw [e7]; rfl) dX5_count_40
  · refine lv_tableIn (off := 40) (tgt := 41) hx hb dX5_count_1 (by decide) (by decide) (by decide) (by decide) ?_
    refine lv_aload_n hx hb dX5_count_41 rfl (lv_at hl 0 rfl) ?_
    refine r_get (ref := "SpanMover") S9 w hR.1 rfl (by decide +kernel) 3 (by decide) (by decide +kernel) (Or.inl rfl) rfl dX5_count_42 ?_
    exact e_i S9 hr hlk (rfl) dX5_count_45
  · refine lv_tableIn (off := 45) (tgt := 46) hx hb dX5_count_1 (by decide) (by decide) (by decide) (by decide) ?_
    refine lv_aload_n hx hb dX5_count_46 rfl (lv_at hl 0 rfl) ?_
    refine r_get (ref := "SpanMover") S9 w hR.1 rfl (by decide +kernel) 2 (by decide) (by decide +kernel) (Or.inl rfl) rfl dX5_count_47 ?_
    exact e_i S9 hr hlk (rfl) dX5_count_50
  · refine lv_tableIn (off := 50) (tgt := 51) hx hb dX5_count_1 (by decide) (by decide) (by decide) (by decide) ?_
    refine lv_aload_n hx hb dX5_count_51 rfl (lv_at hl 0 rfl) ?_
    refine r_get (ref := "SpanMover") S9 w hR.1 rfl (by decide +kernel) 7 (by decide) (by decide +kernel) (Or.inl rfl) rfl dX5_count_52 ?_
    exact e_i S9 hr hlk (rfl) dX5_count_55
  · refine lv_tableIn (off := 55) (tgt := 56) hx hb dX5_count_1 (by decide) (by decide) (by decide) (by decide) ?_
    refine lv_aload_n hx hb dX5_count_56 rfl (lv_at hl 0 rfl) ?_
    refine r_get (ref := "SpanMover") S9 w hR.1 rfl (by decide +kernel) 8 (by decide) (by decide +kernel) (Or.inl rfl) rfl dX5_count_57 ?_
    exact e_i S9 hr hlk (rfl) dX5_count_60
  · refine lv_tableOut (tgt := 61) hx hb dX5_count_1 hi (by decide) ?_
    refine lv_iconst (v := (-1)) hx hb dX5_count_61 (by decide) ?_
    exact e_i S9 hr hlk (by have h0 : ¬ i = 0 := (fun q => by subst q; revert hi; decide); have h1 : ¬ i = 1 := (fun q => by subst q; revert hi; decide); have h2 : ¬ i = 2 := (fun q => by subst q; revert hi; decide); have h3 : ¬ i = 3 := (fun q => by subst q; revert hi; decide); have h4 : ¬ i = 4 := (fun q => by subst q; revert hi; decide); simp [sp_count, h0, h1, h2, h3, h4]) dX5_count_62
end
section
theorem ref1_row {o : Ob} {i lo hi : Int32} (hk : o_k o ≤ 6) : ref1 (some o) i lo hi = if nI (o_k o) < lo then 3 else if nI (o_k o) ≤ hi then (if inE (o_n o) i then 0 else 4) else 3 := by
  have h7 : ¬ 7 ≤ o_k o := by omega
  simp [ref1, h7]
theorem ref1_thg {o : Ob} {i lo hi : Int32} (hk : 7 ≤ o_k o) : ref1 (some o) i lo hi = 2 := by
  simp [ref1, hk]
theorem ref1_zero {o : Ob} {i : Int32} {a b : Nat} (h : ref1 (some o) i (nI a) (nI b) = 0) (ha : a ≤ 8) (hb : b ≤ 8) (hk : o_k o ≤ 8) : a ≤ o_k o ∧ o_k o ≤ b ∧ inE (o_n o) i ∧ o_k o ≤ 6 := by
  by_cases h7 : 7 ≤ o_k o
  · rw [ref1_thg h7] at h
    exact absurd h (by decide)
  · rw [ref1_row (by omega)] at h
    by_cases h1 : nI (o_k o) < nI a
    · simp [h1] at h
    · by_cases h2 : nI (o_k o) ≤ nI b
      · by_cases h3 : inE (o_n o) i
        · rw [nI_ltI (by omega) (by omega)] at h1
          rw [nI_leI (by omega) (by omega)] at h2
          exact ⟨by omega, by omega, h3, by omega⟩
        · simp [h1, h2, h3] at h
      · simp [h1, h2] at h
theorem Inv.ob {S : St} (hI : Inv S) {h : Nat} {o : Ob} (ho : s_o S h = some o) : o_k o ≤ 8 ∧ o_n o ≤ 2000 := ⟨(hI.2.2.2.1 h o ho).1, (hI.2.2.2.1 h o ho).2.1⟩
theorem upd_upd {f : Nat → Int32} {k : Nat} {v w : Int32} : upd (upd f k v) k w = upd f k w := by
  funext j
  by_cases h : j = k
  · subst h; rw [pk_us, pk_us]
  · rw [pk_un h, pk_un h, pk_un h]
end
section
set_option maxHeartbeats 4000000 in
set_option maxRecDepth 100000 in
theorem c_set (l : Launch) {G : Gt} {ws : va_W} (sz : Nat) {x sh li : Nat} {ad ar : Nat → Nat} {S : St} (hR : RpX G x sh li ad ar S ws) (hI : Inv S) (pl i : Int32) (v : Int64) : Met l yX5_set wsX5_set ({ frames := 2, cells := 0, slots := 0, locals := 45 } : Room) (Pw G [.ref x, .int pl, .int i, .long v] ws sz) (va_Qi (fun (r : Int32) (u : va_W) => r = (sp_set S pl i v).1 ∧ ∃ ad2 ar2, RpX G x sh li ad2 ar2 (sp_set S pl i v).2 u) (Bw G ws sz) (va_A ws sz)) 0 0 (va_A ws sz) := by
  refine Met_pw (cc := cX5_set) (maxL := 8) (ret := (some .int)) (by decide) rfl (Nat.le_of_ble_eq_true rfl) ?_
  intro p e s m below meth c ls hsz S9 hr hlk hnm w hl
  subst hsz
  replace S9 : CallFix p m c cX5_set 8 s _ wsX5_set RX5 := S9
  have hx := S9.1
  have hb := S9.2.1
  have hown := S9.2.2.2.1
  have hts := S9.2.2.2.2
  replace hl : lv_has ls 8 [(0, .ref x), (1, .int pl), (2, .int i), (3, .long v)] := hl
  refine lv_aload_n hx hb dX5_set_0 rfl (lv_at hl 0 rfl) ?_
  refine lv_iload_n hx hb dX5_set_1 rfl (lv_at hl 1 rfl) ?_
  refine kx_itemAt S9 w hR hI gX5_set_X5_itemAt hl.1 (Nat.le_of_ble_eq_true rfl) dX5_set_2 ⟨Nat.le_of_ble_eq_true rfl, Nat.le_of_ble_eq_true rfl⟩ ⟨Nat.le_of_ble_eq_true rfl, Nat.le_of_ble_eq_true rfl⟩ (fun i_2 => ?_) (fun h o i_2 ho => ?_)
  · refine lv_astoreN (lv' := [(5, .null), (0, .ref x), (1, .int pl), (2, .int i), (3, .long v)]) hx hb dX5_set_5 hl (by decide) rfl (fun ls hl => ?_)
    refine lv_aloadN hx hb dX5_set_7 (lv_at hl 0 rfl) ?_
    refine lv_iload_n hx hb dX5_set_9 rfl (lv_at hl 3 rfl) ?_
    refine lv_iconst (v := 0) hx hb dX5_set_10 (by decide) ?_
    refine lv_iconst (v := 3) hx hb dX5_set_11 (by decide) ?_
    refine k_si S9 w (c_refusalAt_N l _ i 0 3) (va_cwS 4 hts gX5_set_X5_refusalAt rfl rfl rfl (by decide +kernel) ⟨Nat.le_of_ble_eq_true rfl, Nat.le_of_ble_eq_true rfl⟩) rfl hl.1 rfl (Nat.le_of_ble_eq_true rfl) dX5_set_12 ⟨Nat.le_of_ble_eq_true rfl, Nat.le_of_ble_eq_true rfl⟩ (fun v7 e7 => ?_)
    refine lv_istore (lv' := [(6, .int v7), (5, .null), (0, .ref x), (1, .int pl), (2, .int i), (3, .long v)]) hx hb dX5_set_15 hl (by decide) rfl (fun ls hl => ?_)
    refine lv_iload hx hb dX5_set_17 (lv_at hl 0 rfl) ?_
    refine lv_if_ne (tgt := 44) hx hb dX5_set_19 (by decide) (fun c_19 => ?_) (fun c_19 => ?_)
    · refine lv_iload hx hb dX5_set_44 (lv_at hl 0 rfl) ?_
      exact ew_i S9 hr hlk w (by rw [show sp_set S pl i v = (v7, S) from by rw [e7]; simp [sp_set, i_2]]; exact ⟨rfl, ad, ar, hR⟩) dX5_set_46 (by decide) (by decide)
    · exact absurd (e7.symm.trans c_19) (by decide)
  · obtain ⟨dk, kd, q1, q2, q3, q4⟩ := hR.2.2.2.1 h o ho
    rcases (show o_k o ≤ 3 ∨ (4 ≤ o_k o ∧ o_k o ≤ 6) ∨ 7 ≤ o_k o by omega) with hk | ⟨hk, hm⟩ | hk
    · rw [o_num hk] at q1
      refine lv_astore (lv' := [(5, .ref (ad h)), (0, .ref x), (1, .int pl), (2, .int i), (3, .long v)]) hx hb dX5_set_5 hl (by decide) rfl (fun ls hl => ?_)
      refine lv_aload hx hb dX5_set_7 (lv_at hl 0 rfl) ?_
      refine lv_iload_n hx hb dX5_set_9 rfl (lv_at hl 3 rfl) ?_
      refine lv_iconst (v := 0) hx hb dX5_set_10 (by decide) ?_
      refine lv_iconst (v := 3) hx hb dX5_set_11 (by decide) ?_
      refine k_si S9 w (c_refusalAt_0 l _ q1 i 0 3) (va_cwS 4 hts gX5_set_X5_refusalAt rfl rfl rfl (by decide +kernel) ⟨Nat.le_of_ble_eq_true rfl, Nat.le_of_ble_eq_true rfl⟩) rfl hl.1 rfl (Nat.le_of_ble_eq_true rfl) dX5_set_12 ⟨Nat.le_of_ble_eq_true rfl, Nat.le_of_ble_eq_true rfl⟩ (fun v7 e7 => ?_)
      rw [← ref1_row (o := o) (i := i) (lo := 0) (hi := 3) (by omega)] at e7
      refine lv_istore (lv' := [(6, .int v7), (5, .ref (ad h)), (0, .ref x), (1, .int pl), (2, .int i), (3, .long v)]) hx hb dX5_set_15 hl (by decide) rfl (fun ls hl => ?_)
      refine lv_iload hx hb dX5_set_17 (lv_at hl 0 rfl) ?_
      refine lv_if_ne (tgt := 44) hx hb dX5_set_19 (by decide) (fun c_19 => ?_) (fun c_19 => ?_)
      · refine lv_iload hx hb dX5_set_44 (lv_at hl 0 rfl) ?_
        exact ew_i S9 hr hlk w (by rw [show sp_set S pl i v = (v7, S) from by rw [e7] at c_19; rw [e7]; simp [sp_set, i_2, ho, c_19]]; exact ⟨rfl, ad, ar, hR⟩) dX5_set_46 (by decide) (by decide)
      · obtain ⟨z1, z2, z3, z4⟩ := ref1_zero (a := 0) (b := 3) (e7.symm.trans c_19) (by decide) (by decide) (hI.ob ho).1
        have z5 := inE_in z3 (by have := (hI.ob ho).2; omega)
        refine lv_aload hx hb dX5_set_22 (lv_at hl 1 rfl) ?_
        refine r_inst S9 w q1 (by decide) 0 (by decide) (by decide +kernel) (v := 1) rfl dX5_set_24 ?_
        refine lv_if_eq (tgt := 44) hx hb dX5_set_27 (by decide) (fun c_27 => absurd c_27 (by decide)) (fun c_27 => ?_)
        refine lv_aload hx hb dX5_set_30 (lv_at hl 1 rfl) ?_
        refine r_cast S9 w q1 (by decide) 0 (by decide) rfl (by decide +kernel) dX5_set_32 ?_
        refine lv_astore (lv' := [(7, .ref (ad h)), (6, .int v7), (5, .ref (ad h)), (0, .ref x), (1, .int pl), (2, .int i), (3, .long v)]) hx hb dX5_set_35 hl (by decide) rfl (fun ls hl => ?_)
        refine lv_aload hx hb dX5_set_37 (lv_at hl 0 rfl) ?_
        refine lv_iload_n hx hb dX5_set_39 rfl (lv_at hl 5 rfl) ?_
        refine lv_lload_n hx hb dX5_set_40 rfl (lv_at hl 6 rfl) ?_
        refine kw_vv S9 w (c_put l _ q1 hk (q3 hk) i z5 v) q1 rfl (cwV 2 hts gX5_set_X1_put rfl rfl rfl (by decide +kernel) ⟨Nat.le_of_ble_eq_true rfl, Nat.le_of_ble_eq_true rfl⟩) rfl hl.1 rfl (Nat.le_of_ble_eq_true rfl) dX5_set_41 ⟨Nat.le_of_ble_eq_true rfl, Nat.le_of_ble_eq_true rfl⟩ (fun u8 H8 lc8 p8 w8 => ?_)
        obtain ⟨ws9, y1, y2⟩ := p8
        have hR8 := RpX.num w.2.1 hR ho hk y1 y2
        refine lv_iload hx hb dX5_set_44 (lv_at hl 1 rfl) ?_
        exact ew_i S9 hr hlk w8 (by rw [show sp_set S pl i v = (v7, s_put S h (o_setf o (vp_updL (o_f o) i.toNatClampNeg (narK (o_k o) v)))) from by have e8 := e7.symm.trans c_19; simp [sp_set, i_2, ho, e8, c_19]]; exact ⟨rfl, ad, ar, hR8⟩) dX5_set_46 (by decide) (by decide)
    · rw [o_obj hk hm] at q1
      refine lv_astore (lv' := [(5, .ref (ad h)), (0, .ref x), (1, .int pl), (2, .int i), (3, .long v)]) hx hb dX5_set_5 hl (by decide) rfl (fun ls hl => ?_)
      refine lv_aload hx hb dX5_set_7 (lv_at hl 0 rfl) ?_
      refine lv_iload_n hx hb dX5_set_9 rfl (lv_at hl 3 rfl) ?_
      refine lv_iconst (v := 0) hx hb dX5_set_10 (by decide) ?_
      refine lv_iconst (v := 3) hx hb dX5_set_11 (by decide) ?_
      refine k_si S9 w (c_refusalAt_1 l _ q1 i 0 3) (va_cwS 4 hts gX5_set_X5_refusalAt rfl rfl rfl (by decide +kernel) ⟨Nat.le_of_ble_eq_true rfl, Nat.le_of_ble_eq_true rfl⟩) rfl hl.1 rfl (Nat.le_of_ble_eq_true rfl) dX5_set_12 ⟨Nat.le_of_ble_eq_true rfl, Nat.le_of_ble_eq_true rfl⟩ (fun v7 e7 => ?_)
      rw [← ref1_row (o := o) (i := i) (lo := 0) (hi := 3) (by omega)] at e7
      refine lv_istore (lv' := [(6, .int v7), (5, .ref (ad h)), (0, .ref x), (1, .int pl), (2, .int i), (3, .long v)]) hx hb dX5_set_15 hl (by decide) rfl (fun ls hl => ?_)
      refine lv_iload hx hb dX5_set_17 (lv_at hl 0 rfl) ?_
      refine lv_if_ne (tgt := 44) hx hb dX5_set_19 (by decide) (fun c_19 => ?_) (fun c_19 => ?_)
      · refine lv_iload hx hb dX5_set_44 (lv_at hl 0 rfl) ?_
        exact ew_i S9 hr hlk w (by rw [show sp_set S pl i v = (v7, S) from by rw [e7] at c_19; rw [e7]; simp [sp_set, i_2, ho, c_19]]; exact ⟨rfl, ad, ar, hR⟩) dX5_set_46 (by decide) (by decide)
      · obtain ⟨z1, z2, z3, z4⟩ := ref1_zero (a := 0) (b := 3) (e7.symm.trans c_19) (by decide) (by decide) (hI.ob ho).1
        omega
    · rw [o_thg hk] at q1
      refine lv_astore (lv' := [(5, .ref (ad h)), (0, .ref x), (1, .int pl), (2, .int i), (3, .long v)]) hx hb dX5_set_5 hl (by decide) rfl (fun ls hl => ?_)
      refine lv_aload hx hb dX5_set_7 (lv_at hl 0 rfl) ?_
      refine lv_iload_n hx hb dX5_set_9 rfl (lv_at hl 3 rfl) ?_
      refine lv_iconst (v := 0) hx hb dX5_set_10 (by decide) ?_
      refine lv_iconst (v := 3) hx hb dX5_set_11 (by decide) ?_
      refine k_si S9 w (c_refusalAt_2 l _ q1 i 0 3) (va_cwS 4 hts gX5_set_X5_refusalAt rfl rfl rfl (by decide +kernel) ⟨Nat.le_of_ble_eq_true rfl, Nat.le_of_ble_eq_true rfl⟩) rfl hl.1 rfl (Nat.le_of_ble_eq_true rfl) dX5_set_12 ⟨Nat.le_of_ble_eq_true rfl, Nat.le_of_ble_eq_true rfl⟩ (fun v7 e7 => ?_)
      rw [← ref1_thg (o := o) (i := i) (lo := 0) (hi := 3) hk] at e7
      refine lv_istore (lv' := [(6, .int v7), (5, .ref (ad h)), (0, .ref x), (1, .int pl), (2, .int i), (3, .long v)]) hx hb dX5_set_15 hl (by decide) rfl (fun ls hl => ?_)
      refine lv_iload hx hb dX5_set_17 (lv_at hl 0 rfl) ?_
      refine lv_if_ne (tgt := 44) hx hb dX5_set_19 (by decide) (fun c_19 => ?_) (fun c_19 => ?_)
      · refine lv_iload hx hb dX5_set_44 (lv_at hl 0 rfl) ?_
        exact ew_i S9 hr hlk w (by rw [show sp_set S pl i v = (v7, S) from by rw [e7] at c_19; rw [e7]; simp [sp_set, i_2, ho, c_19]]; exact ⟨rfl, ad, ar, hR⟩) dX5_set_46 (by decide) (by decide)
      · exact absurd ((ref1_thg hk).symm.trans (e7.symm.trans c_19)) (by decide)

set_option maxHeartbeats 4000000 in
set_option maxRecDepth 100000 in
theorem c_clear (l : Launch) {G : Gt} {ws : va_W} (sz : Nat) {x sh li : Nat} {ad ar : Nat → Nat} {S : St} (hR : RpX G x sh li ad ar S ws) (hI : Inv S) (pl : Int32) : Met l yX5_clear wsX5_clear ({ frames := 1, cells := 0, slots := 0, locals := 21 } : Room) (Pw G [.ref x, .int pl] ws sz) (va_Qi (fun (r : Int32) (u : va_W) => r = (sp_clear S pl).1 ∧ ∃ ad2 ar2, RpX G x sh li ad2 ar2 (sp_clear S pl).2 u) (Bw G ws sz) (va_A ws sz)) 0 0 (va_A ws sz) := by
  refine Met_pw (cc := cX5_clear) (maxL := 2) (ret := (some .int)) (by decide) rfl (Nat.le_of_ble_eq_true rfl) ?_
  intro p e s m below meth c ls hsz S9 hr hlk hnm w hl
  subst hsz
  replace S9 : CallFix p m c cX5_clear 2 s _ wsX5_clear RX5 := S9
  have hx := S9.1
  have hb := S9.2.1
  have hown := S9.2.2.2.1
  have hts := S9.2.2.2.2
  replace hl : lv_has ls 2 [(0, .ref x), (1, .int pl)] := hl
  refine lv_aload_n hx hb dX5_clear_0 rfl (lv_at hl 0 rfl) ?_
  refine lv_iload_n hx hb dX5_clear_1 rfl (lv_at hl 1 rfl) ?_
  refine kx_itemAt S9 w hR hI gX5_clear_X5_itemAt hl.1 (Nat.le_of_ble_eq_true rfl) dX5_clear_2 ⟨Nat.le_of_ble_eq_true rfl, Nat.le_of_ble_eq_true rfl⟩ ⟨Nat.le_of_ble_eq_true rfl, Nat.le_of_ble_eq_true rfl⟩ (fun i_2 => ?_) (fun h o i_2 ho => ?_)
  · refine lv_ifnonnullN hx hb dX5_clear_5 ?_
    refine lv_iconst (v := 0) hx hb dX5_clear_8 (by decide) ?_
    exact ew_i S9 hr hlk w (by rw [show sp_clear S pl = (0, S) from by simp [sp_clear, i_2]]; exact ⟨rfl, ad, ar, hR⟩) dX5_clear_9 (by decide) (by decide)
  · refine lv_ifnonnull (tgt := 10) hx hb dX5_clear_5 (by decide) ?_
    refine lv_aload_n hx hb dX5_clear_10 rfl (lv_at hl 0 rfl) ?_
    refine r_get (ref := "SpanMover") S9 w hR.1 rfl (by decide +kernel) 0 (by decide) (by decide +kernel) (Or.inl rfl) rfl dX5_clear_11 ?_
    refine lv_iload_n hx hb dX5_clear_14 rfl (lv_at hl 1 rfl) ?_
    refine lv_null hx hb dX5_clear_15 ?_
    have hin : vp_in pl 400 := by
      unfold itm at i_2
      by_cases h0 : pl < 0
      · simp [h0] at i_2
      · by_cases h4 : (400 : Int32) ≤ pl
        · simp [h0, h4] at i_2
        · exact in_of h0 h4 (by decide)
    refine r_aast (r := none) S9 w hR.2.1 (fun z hz => by cases hz) hin dX5_clear_16 (fun ws8 H8 lc8 u8 w8 => ?_)
    have hR8 := RpX.sf (f := va_up (s_s S) pl.toNatClampNeg none) w.2.1 hR u8 (by congr 5; funext j; by_cases hj : j = pl.toNatClampNeg <;> simp [va_up, hj])
    refine lv_iconst (v := 1) hx hb dX5_clear_17 (by decide) ?_
    exact ew_i S9 hr hlk w8 (by rw [show sp_clear S pl = (1, s_sh S (va_up (s_s S) pl.toNatClampNeg none)) from by simp [sp_clear, i_2]]; exact ⟨rfl, ad, ar, hR8⟩) dX5_clear_18 (by decide) (by decide)
end
section
/-! methods that take an Item, whatever it is -/
theorem fitK_iff {k k' : Nat} (hk : 4 ≤ k) (hk6 : k ≤ 6) : fitK k k' ↔ (k = 4 ∧ k' = 0) ∨ (k = 5 ∧ (k' = 7 ∨ k' = 8)) ∨ (k = 6 ∧ k' = 8) := by
  unfold fitK
  rcases (show k = 4 ∨ k = 5 ∨ k = 6 by omega) with rfl | rfl | rfl <;> simp
theorem Met.mono {l : Launch} {y : MethodName} {ws : List Cond} {rm : Room} {Pc : Array Value → State → Prop} {Qc Qc' : Array Value → State → Outcome → State → Prop} {mc ms : Nat} {free : Addr → Prop} (hM : Met l y ws rm Pc Qc mc ms free) (h : ∀ a st o t, Qc a st o t → Qc' a st o t) : Met l y ws rm Pc Qc' mc ms free := fun p e ha hc hk s m args below hf h1 hP hT => by
  obtain ⟨k, o, g1, g2, g3, hQ, hF⟩ := hM p e ha hc hk s m args below hf h1 hP hT
  exact ⟨k, o, g1, g2, g3, h _ _ _ _ hQ, hF⟩
def okr (S : St) (r : Option Nat) : Prop := ∀ h, r = some h → ∃ o, s_o S h = some o
theorem Inv.el {S : St} (hI : Inv S) {h : Nat} {o : Ob} (ho : s_o S h = some o) (hk : 4 ≤ o_k o) (hk6 : o_k o ≤ 6) (i : Nat) : okr S (o_e o i) := fun h' hh => by
  obtain ⟨o', g1, -⟩ := hI.2.2.2.2.2.2 h o ho hk hk6 i h' hh
  exact ⟨o', g1⟩
theorem Inv.it {S : St} (hI : Inv S) (i : Int32) : okr S (itm S i) := fun h hh => itm_o hI hh
section UNI
variable {G : Gt} {ws : va_W} {x sh li : Nat} {ad ar : Nat → Nat} {S : St}
theorem u_toldAs (l : Launch) (sz : Nat) (hR : RpX G x sh li ad ar S ws) (hI : Inv S) (r : Option Nat) (hv : okr S r) : Met l yX5_toldAs wsX5_toldAs ({ frames := 0, cells := 0, slots := 0, locals := 0 } : Room) (Pw G [va_rf (r.map ad)] ws sz) (vp_Sl (fun z : Int64 => z = told (obj S r))) 0 0 (fun _ => False) := by
  cases r with
  | none => exact c_toldAs_N l sz
  | some h =>
    obtain ⟨o, ho⟩ := hv h rfl
    have hk8 := (hI.ob ho).1
    have e : obj S (some h) = some o := ho
    rw [e]
    obtain ⟨dk, kd, q1, q2, q3, q4⟩ := hR.2.2.2.1 h o ho
    rcases (show o_k o ≤ 3 ∨ (4 ≤ o_k o ∧ o_k o ≤ 6) ∨ 7 ≤ o_k o by omega) with hk | ⟨hk, hm⟩ | hk
    · rw [o_num hk] at q1
      have e2 : told (some o) = (nI (o_n o)).toInt64 := by simp [told, show ¬ 7 ≤ o_k o by omega]
      rw [e2]
      exact c_toldAs_0 l sz q1
    · rw [o_obj hk hm] at q1
      have e2 : told (some o) = (nI (o_n o)).toInt64 := by simp [told, show ¬ 7 ≤ o_k o by omega]
      rw [e2]
      exact c_toldAs_1 l sz q1
    · rw [o_thg hk] at q1
      have e2 : told (some o) = (nI (o_k o)).toInt64 * 4294967296 + ((o_v o).toInt64 &&& 4294967295) := by simp [told, hk]
      rw [e2]
      exact c_toldAs_2 l sz q1
theorem u_isFitFor (l : Launch) (sz : Nat) (hR : RpX G x sh li ad ar S ws) (hI : Inv S) {n k a b : Nat} (ha : hp ws a (.inr (1, [.int (nI n), .int (nI k), .ref b]))) (hk : 4 ≤ k) (hk6 : k ≤ 6) (r : Option Nat) (hv : okr S r) : Met l yX2_isFitFor wsX2_isFitFor ({ frames := 0, cells := 0, slots := 0, locals := 0 } : Room) (Pw G [.ref a, va_rf (r.map ad)] ws sz) (vp_Si (fun z : Int32 => z = if fitE S k r then 1 else 0)) 0 0 (fun _ => False) := by
  have key : ∀ {o : Ob} {h : Nat}, s_o S h = some o → ∀ z : Int32, ((fitK k (o_k o) → z = 1) ∧ (¬ fitK k (o_k o) → z = 0)) → z = if fitE S k (some h) then 1 else 0 := by
    intro o h ho z hz
    have e : obj S (some h) = some o := ho
    unfold fitE
    rw [e]
    rw [fitK_iff hk hk6] at hz
    by_cases hf : (k = 4 ∧ o_k o = 0) ∨ (k = 5 ∧ (o_k o = 7 ∨ o_k o = 8)) ∨ (k = 6 ∧ o_k o = 8)
    · simp only [decide_eq_true hf]
      exact hz.1 hf
    · simp only [decide_eq_false hf]
      exact hz.2 hf
  have wk : ∀ {av : List Value} {P Q : Int32 → Prop}, (∀ z, P z → Q z) → Met l yX2_isFitFor wsX2_isFitFor ({ frames := 0, cells := 0, slots := 0, locals := 0 } : Room) (Pw G av ws sz) (vp_Si P) 0 0 (fun _ => False) → Met l yX2_isFitFor wsX2_isFitFor ({ frames := 0, cells := 0, slots := 0, locals := 0 } : Room) (Pw G av ws sz) (vp_Si Q) 0 0 (fun _ => False) := by
    exact fun h hM => hM.mono (fun _ _ _ _ ⟨r, g1, g2, g3⟩ => ⟨r, g1, h r g2, g3⟩)
  cases r with
  | none => exact c_isFitFor_N l sz ha
  | some h =>
    obtain ⟨o, ho⟩ := hv h rfl
    have hk8 := (hI.ob ho).1
    obtain ⟨dk, kd, q1, q2, q3, q4⟩ := hR.2.2.2.1 h o ho
    rcases (show o_k o ≤ 3 ∨ (4 ≤ o_k o ∧ o_k o ≤ 6) ∨ 7 ≤ o_k o by omega) with h3 | ⟨h3, hm⟩ | h3
    · rw [o_num h3] at q1
      exact wk (key ho) (c_isFitFor_0 l sz ha hk hk6 q1 h3)
    · rw [o_obj h3 hm] at q1
      exact wk (key ho) (c_isFitFor_1 l sz ha hk hk6 q1 h3 hm)
    · rw [o_thg h3] at q1
      exact wk (key ho) (c_isFitFor_2 l sz ha hk hk6 q1 h3 hk8)
end UNI
end
section
theorem st_1 {S : St} {pl i th : Int32} (h : itm S th = none) (h1 : ¬ th = -1) : sp_setThing S pl i th = (1, S) := by
  simp [sp_setThing, h, h1]
theorem st_N {S : St} {pl i th : Int32} (h : itm S pl = none) : sp_setThing S pl i th = (1, S) := by
  unfold sp_setThing
  split
  · rfl
  · simp [h]
theorem st_no {S : St} {pl i th : Int32} {h : Nat} {o : Ob} (hn : ¬ (itm S th = none ∧ ¬ th = -1)) (hi : itm S pl = some h) (ho : s_o S h = some o) (hr : ¬ ref1 (some o) i 4 6 = 0) : sp_setThing S pl i th = (ref1 (some o) i 4 6, S) := by
  unfold sp_setThing
  rw [if_neg hn]
  simp [hi, ho, hr]
theorem st_ok {S : St} {pl i th : Int32} {h : Nat} {o : Ob} (hn : ¬ (itm S th = none ∧ ¬ th = -1)) (hi : itm S pl = some h) (ho : s_o S h = some o) (hr : ref1 (some o) i 4 6 = 0) (hf : fitE S (o_k o) (itm S th) = true) : sp_setThing S pl i th = (0, s_put S h (o_sete o (va_up (o_e o) i.toNatClampNeg (itm S th)))) := by
  unfold sp_setThing
  rw [if_neg hn]
  unfold fitE at hf
  cases ht : obj S (itm S th) with
  | none => simp [hi, ho, hr, ht]
  | some o' =>
    rw [ht] at hf
    have hf := of_decide_eq_true hf
    simp [hi, ho, hr, ht, hf]
theorem st_bad {S : St} {pl i th : Int32} {h : Nat} {o : Ob} (hn : ¬ (itm S th = none ∧ ¬ th = -1)) (hi : itm S pl = some h) (ho : s_o S h = some o) (hr : ref1 (some o) i 4 6 = 0) (hf : fitE S (o_k o) (itm S th) = false) : sp_setThing S pl i th = (5, S) := by
  unfold sp_setThing
  rw [if_neg hn]
  unfold fitE at hf
  cases ht : obj S (itm S th) with
  | none => rw [ht] at hf; cases hf
  | some o' =>
    rw [ht] at hf
    have hf := of_decide_eq_false hf
    simp [hi, ho, hr, ht, hf]
theorem map_ad_none {ad : Nat → Nat} {r : Option Nat} (h : r.map ad = none) : r = none := by
  cases r with
  | none => rfl
  | some y => cases h
theorem map_ad_some {ad : Nat → Nat} {r : Option Nat} {a : Nat} (h : r.map ad = some a) : ¬ r = none := fun q => by
  rw [q] at h
  cases h
theorem map_up {ad : Nat → Nat} {f : Nat → Option Nat} {k : Nat} {r : Option Nat} : va_up (fun i => (f i).map ad) k (r.map ad) = fun i => (va_up f k r i).map ad := by
  funext j
  by_cases hj : j = k <;> simp [va_up, hj]
section UNI2
variable {G : Gt} {ws : va_W} {x sh li : Nat} {ad ar : Nat → Nat} {S : St}
theorem u_putObject (l : Launch) (sz : Nat) (hR : RpX G x sh li ad ar S ws) {n k a b : Nat} (ha : hp ws a (.inr (1, [.int (nI n), .int (nI k), .ref b]))) {f : Nat → Option Nat} (hb0 : hp ws b (aT G n f)) (i : Int32) (hi : vp_in i n) (r : Option Nat) (hv : okr S r) : Met l yX2_putObject wsX2_putObject ({ frames := 0, cells := 0, slots := 0, locals := 0 } : Room) (Pw G [.ref a, .int i, va_rf (r.map ad)] ws sz) (va_Qv (fun (u : va_W) => hu ws b (aT G n (va_up f i.toNatClampNeg (r.map ad))) u) (Bw G ws sz) (va_A ws sz)) 0 0 (va_A ws sz) := by
  cases r with
  | none => exact c_putObject_N l sz ha hb0 i hi
  | some h =>
    obtain ⟨o, ho⟩ := hv h rfl
    obtain ⟨dk, kd, q1, q2, q3, q4⟩ := hR.2.2.2.1 h o ho
    exact c_putObject_S l sz ha hb0 i hi (o_cl3 _) q1
end UNI2
theorem Inv.sc {S : St} (hI : Inv S) (f : Nat → Int32) (h0 : f 0 = s_c S 0) (h1 : f 1 = s_c S 1) : Inv (s_u S, s_o S, s_s S, s_l S, f) := by
  obtain ⟨g1, g2, ⟨k, g3, g4⟩, g5⟩ := hI
  exact ⟨g1, h1.trans g2, ⟨k, g3, h0.trans g4⟩, g5⟩
theorem va_rf_cat (r : Option Nat) : (va_rf r).category = 1 := by cases r <;> rfl
end
section
set_option maxHeartbeats 4000000 in
set_option maxRecDepth 100000 in
theorem c_setThing (l : Launch) {G : Gt} {ws : va_W} (sz : Nat) {x sh li : Nat} {ad ar : Nat → Nat} {S : St} (hR : RpX G x sh li ad ar S ws) (hI : Inv S) (pl i th : Int32) : Met l yX5_setThing wsX5_setThing ({ frames := 2, cells := 0, slots := 0, locals := 45 } : Room) (Pw G [.ref x, .int pl, .int i, .int th] ws sz) (va_Qi (fun (r : Int32) (u : va_W) => r = (sp_setThing S pl i th).1 ∧ ∃ ad2 ar2, RpX G x sh li ad2 ar2 (sp_setThing S pl i th).2 u) (Bw G ws sz) (va_A ws sz)) 0 0 (va_A ws sz) := by
  refine Met_pw (cc := cX5_setThing) (maxL := 8) (ret := (some .int)) (by decide) rfl (Nat.le_of_ble_eq_true rfl) ?_
  intro p e s m below meth c ls hsz S9 hr hlk hnm w hl
  subst hsz
  replace S9 : CallFix p m c cX5_setThing 8 s _ wsX5_setThing RX5 := S9
  have hx := S9.1
  have hb := S9.2.1
  have hown := S9.2.2.2.1
  have hts := S9.2.2.2.2
  replace hl : lv_has ls 8 [(0, .ref x), (1, .int pl), (2, .int i), (3, .int th)] := hl
  refine lv_aload_n hx hb dX5_setThing_0 rfl (lv_at hl 0 rfl) ?_
  refine lv_iload_n hx hb dX5_setThing_1 rfl (lv_at hl 1 rfl) ?_
  refine kx_itemAt S9 w hR hI gX5_setThing_X5_itemAt hl.1 (Nat.le_of_ble_eq_true rfl) dX5_setThing_2 ⟨Nat.le_of_ble_eq_true rfl, Nat.le_of_ble_eq_true rfl⟩ ⟨Nat.le_of_ble_eq_true rfl, Nat.le_of_ble_eq_true rfl⟩ (fun i_2 => ?_) (fun h o i_2 ho => ?_)
  · refine lv_astoreN (lv' := [(4, .null), (0, .ref x), (1, .int pl), (2, .int i), (3, .int th)]) hx hb dX5_setThing_5 hl (by decide) rfl (fun ls hl => ?_)
    refine lv_aload_n hx hb dX5_setThing_7 rfl (lv_at hl 1 rfl) ?_
    refine lv_iload_n hx hb dX5_setThing_8 rfl (lv_at hl 4 rfl) ?_
    refine k_vq S9 w (c_itemAt l _ hR th) hR.1 rfl (cwV 1 hts gX5_setThing_X5_itemAt rfl rfl rfl (by decide +kernel) ⟨Nat.le_of_ble_eq_true rfl, Nat.le_of_ble_eq_true rfl⟩) rfl hl.1 rfl (Nat.le_of_ble_eq_true rfl) dX5_setThing_9 ⟨Nat.le_of_ble_eq_true rfl, Nat.le_of_ble_eq_true rfl⟩ (fun r9 e9 => ?_)
    subst e9
    refine lq_astore (lv' := [(5, va_rf ((itm S th).map ad)), (4, .null), (0, .ref x), (1, .int pl), (2, .int i), (3, .int th)]) hx hb dX5_setThing_12 hl (by decide) rfl (fun ls hl => ?_)
    refine lq_aload hx hb dX5_setThing_14 (lv_at hl 0 rfl) ?_
    refine lq_ifnonnull (tgt := 26) hx hb dX5_setThing_16 (by decide) (fun c_16 => ?_) (fun a_16 c_16 => ?_)
    · refine lv_iload_n hx hb dX5_setThing_19 rfl (lv_at hl 5 rfl) ?_
      refine lv_iconst (v := (-1)) hx hb dX5_setThing_20 (by decide) ?_
      refine lv_icmp_eq (tgt := 26) hx hb dX5_setThing_21 (by decide) (fun c_21 => ?_) (fun c_21 => ?_)
      · refine lv_aloadN hx hb dX5_setThing_26 (lv_at hl 1 rfl) ?_
        refine lv_iload_n hx hb dX5_setThing_28 rfl (lv_at hl 4 rfl) ?_
        refine lv_iconst (v := 4) hx hb dX5_setThing_29 (by decide) ?_
        refine lv_bipush (v := 6) hx hb dX5_setThing_30 (by decide) ?_
        refine k_si S9 w (c_refusalAt_N l _ i 4 6) (va_cwS 4 hts gX5_setThing_X5_refusalAt rfl rfl rfl (by decide +kernel) ⟨Nat.le_of_ble_eq_true rfl, Nat.le_of_ble_eq_true rfl⟩) rfl hl.1 rfl (Nat.le_of_ble_eq_true rfl) dX5_setThing_32 ⟨Nat.le_of_ble_eq_true rfl, Nat.le_of_ble_eq_true rfl⟩ (fun v7 e7 => ?_)
        refine lv_istore (lv' := [(6, .int v7), (5, va_rf ((itm S th).map ad)), (4, .null), (0, .ref x), (1, .int pl), (2, .int i), (3, .int th)]) hx hb dX5_setThing_35 hl (by decide) (by simp [List.filter, va_rf_cat]) (fun ls hl => ?_)
        refine lv_iload hx hb dX5_setThing_37 (lv_at hl 0 rfl) ?_
        refine lv_if_ne (tgt := 77) hx hb dX5_setThing_39 (by decide) (fun c_39 => ?_) (fun c_39 => ?_)
        · refine lv_iload hx hb dX5_setThing_77 (lv_at hl 0 rfl) ?_
          exact ew_i S9 hr hlk w (by rw [st_N i_2, e7]; exact ⟨rfl, ad, ar, hR⟩) dX5_setThing_79 (by decide) (by decide)
        · exact absurd (e7.symm.trans c_39) (by decide)
      · refine lv_iconst (v := 1) hx hb dX5_setThing_24 (by decide) ?_
        exact ew_i S9 hr hlk w (by rw [st_1 (map_ad_none c_16) c_21]; exact ⟨rfl, ad, ar, hR⟩) dX5_setThing_25 (by decide) (by decide)
    · refine lv_aloadN hx hb dX5_setThing_26 (lv_at hl 1 rfl) ?_
      refine lv_iload_n hx hb dX5_setThing_28 rfl (lv_at hl 4 rfl) ?_
      refine lv_iconst (v := 4) hx hb dX5_setThing_29 (by decide) ?_
      refine lv_bipush (v := 6) hx hb dX5_setThing_30 (by decide) ?_
      refine k_si S9 w (c_refusalAt_N l _ i 4 6) (va_cwS 4 hts gX5_setThing_X5_refusalAt rfl rfl rfl (by decide +kernel) ⟨Nat.le_of_ble_eq_true rfl, Nat.le_of_ble_eq_true rfl⟩) rfl hl.1 rfl (Nat.le_of_ble_eq_true rfl) dX5_setThing_32 ⟨Nat.le_of_ble_eq_true rfl, Nat.le_of_ble_eq_true rfl⟩ (fun v7 e7 => ?_)
      refine lv_istore (lv' := [(6, .int v7), (5, va_rf ((itm S th).map ad)), (4, .null), (0, .ref x), (1, .int pl), (2, .int i), (3, .int th)]) hx hb dX5_setThing_35 hl (by decide) (by simp [List.filter, va_rf_cat]) (fun ls hl => ?_)
      refine lv_iload hx hb dX5_setThing_37 (lv_at hl 0 rfl) ?_
      refine lv_if_ne (tgt := 77) hx hb dX5_setThing_39 (by decide) (fun c_39 => ?_) (fun c_39 => ?_)
      · refine lv_iload hx hb dX5_setThing_77 (lv_at hl 0 rfl) ?_
        exact ew_i S9 hr hlk w (by rw [st_N i_2, e7]; exact ⟨rfl, ad, ar, hR⟩) dX5_setThing_79 (by decide) (by decide)
      · exact absurd (e7.symm.trans c_39) (by decide)
  · obtain ⟨dk, kd, q1, q2, q3, q4⟩ := hR.2.2.2.1 h o ho
    rcases (show o_k o ≤ 3 ∨ (4 ≤ o_k o ∧ o_k o ≤ 6) ∨ 7 ≤ o_k o by omega) with hk | ⟨hk, hm⟩ | hk
    · rw [o_num hk] at q1
      refine lv_astore (lv' := [(4, .ref (ad h)), (0, .ref x), (1, .int pl), (2, .int i), (3, .int th)]) hx hb dX5_setThing_5 hl (by decide) rfl (fun ls hl => ?_)
      refine lv_aload_n hx hb dX5_setThing_7 rfl (lv_at hl 1 rfl) ?_
      refine lv_iload_n hx hb dX5_setThing_8 rfl (lv_at hl 4 rfl) ?_
      refine k_vq S9 w (c_itemAt l _ hR th) hR.1 rfl (cwV 1 hts gX5_setThing_X5_itemAt rfl rfl rfl (by decide +kernel) ⟨Nat.le_of_ble_eq_true rfl, Nat.le_of_ble_eq_true rfl⟩) rfl hl.1 rfl (Nat.le_of_ble_eq_true rfl) dX5_setThing_9 ⟨Nat.le_of_ble_eq_true rfl, Nat.le_of_ble_eq_true rfl⟩ (fun r9 e9 => ?_)
      subst e9
      refine lq_astore (lv' := [(5, va_rf ((itm S th).map ad)), (4, .ref (ad h)), (0, .ref x), (1, .int pl), (2, .int i), (3, .int th)]) hx hb dX5_setThing_12 hl (by decide) rfl (fun ls hl => ?_)
      refine lq_aload hx hb dX5_setThing_14 (lv_at hl 0 rfl) ?_
      refine lq_ifnonnull (tgt := 26) hx hb dX5_setThing_16 (by decide) (fun c_16 => ?_) (fun a_16 c_16 => ?_)
      · refine lv_iload_n hx hb dX5_setThing_19 rfl (lv_at hl 5 rfl) ?_
        refine lv_iconst (v := (-1)) hx hb dX5_setThing_20 (by decide) ?_
        refine lv_icmp_eq (tgt := 26) hx hb dX5_setThing_21 (by decide) (fun c_21 => ?_) (fun c_21 => ?_)
        · refine lv_aload hx hb dX5_setThing_26 (lv_at hl 1 rfl) ?_
          refine lv_iload_n hx hb dX5_setThing_28 rfl (lv_at hl 4 rfl) ?_
          refine lv_iconst (v := 4) hx hb dX5_setThing_29 (by decide) ?_
          refine lv_bipush (v := 6) hx hb dX5_setThing_30 (by decide) ?_
          refine k_si S9 w (c_refusalAt_0 l _ q1 i 4 6) (va_cwS 4 hts gX5_setThing_X5_refusalAt rfl rfl rfl (by decide +kernel) ⟨Nat.le_of_ble_eq_true rfl, Nat.le_of_ble_eq_true rfl⟩) rfl hl.1 rfl (Nat.le_of_ble_eq_true rfl) dX5_setThing_32 ⟨Nat.le_of_ble_eq_true rfl, Nat.le_of_ble_eq_true rfl⟩ (fun v7 e7 => ?_)
          rw [← ref1_row (o := o) (i := i) (lo := 4) (hi := 6) (by omega)] at e7
          refine lv_istore (lv' := [(6, .int v7), (5, va_rf ((itm S th).map ad)), (4, .ref (ad h)), (0, .ref x), (1, .int pl), (2, .int i), (3, .int th)]) hx hb dX5_setThing_35 hl (by decide) (by simp [List.filter, va_rf_cat]) (fun ls hl => ?_)
          refine lv_iload hx hb dX5_setThing_37 (lv_at hl 0 rfl) ?_
          refine lv_if_ne (tgt := 77) hx hb dX5_setThing_39 (by decide) (fun c_39 => ?_) (fun c_39 => ?_)
          · refine lv_iload hx hb dX5_setThing_77 (lv_at hl 0 rfl) ?_
            exact ew_i S9 hr hlk w (by rw [e7] at c_39; rw [st_no (fun q => q.2 c_21) i_2 ho c_39, e7]; exact ⟨rfl, ad, ar, hR⟩) dX5_setThing_79 (by decide) (by decide)
          · obtain ⟨z1, z2, z3, z4⟩ := ref1_zero (a := 4) (b := 6) (e7.symm.trans c_39) (by decide) (by decide) (hI.ob ho).1
            omega
        · refine lv_iconst (v := 1) hx hb dX5_setThing_24 (by decide) ?_
          exact ew_i S9 hr hlk w (by rw [st_1 (map_ad_none c_16) c_21]; exact ⟨rfl, ad, ar, hR⟩) dX5_setThing_25 (by decide) (by decide)
      · refine lv_aload hx hb dX5_setThing_26 (lv_at hl 1 rfl) ?_
        refine lv_iload_n hx hb dX5_setThing_28 rfl (lv_at hl 4 rfl) ?_
        refine lv_iconst (v := 4) hx hb dX5_setThing_29 (by decide) ?_
        refine lv_bipush (v := 6) hx hb dX5_setThing_30 (by decide) ?_
        refine k_si S9 w (c_refusalAt_0 l _ q1 i 4 6) (va_cwS 4 hts gX5_setThing_X5_refusalAt rfl rfl rfl (by decide +kernel) ⟨Nat.le_of_ble_eq_true rfl, Nat.le_of_ble_eq_true rfl⟩) rfl hl.1 rfl (Nat.le_of_ble_eq_true rfl) dX5_setThing_32 ⟨Nat.le_of_ble_eq_true rfl, Nat.le_of_ble_eq_true rfl⟩ (fun v7 e7 => ?_)
        rw [← ref1_row (o := o) (i := i) (lo := 4) (hi := 6) (by omega)] at e7
        refine lv_istore (lv' := [(6, .int v7), (5, va_rf ((itm S th).map ad)), (4, .ref (ad h)), (0, .ref x), (1, .int pl), (2, .int i), (3, .int th)]) hx hb dX5_setThing_35 hl (by decide) (by simp [List.filter, va_rf_cat]) (fun ls hl => ?_)
        refine lv_iload hx hb dX5_setThing_37 (lv_at hl 0 rfl) ?_
        refine lv_if_ne (tgt := 77) hx hb dX5_setThing_39 (by decide) (fun c_39 => ?_) (fun c_39 => ?_)
        · refine lv_iload hx hb dX5_setThing_77 (lv_at hl 0 rfl) ?_
          exact ew_i S9 hr hlk w (by rw [e7] at c_39; rw [st_no (fun q => map_ad_some c_16 q.1) i_2 ho c_39, e7]; exact ⟨rfl, ad, ar, hR⟩) dX5_setThing_79 (by decide) (by decide)
        · obtain ⟨z1, z2, z3, z4⟩ := ref1_zero (a := 4) (b := 6) (e7.symm.trans c_39) (by decide) (by decide) (hI.ob ho).1
          omega
    · rw [o_obj hk hm] at q1
      refine lv_astore (lv' := [(4, .ref (ad h)), (0, .ref x), (1, .int pl), (2, .int i), (3, .int th)]) hx hb dX5_setThing_5 hl (by decide) rfl (fun ls hl => ?_)
      refine lv_aload_n hx hb dX5_setThing_7 rfl (lv_at hl 1 rfl) ?_
      refine lv_iload_n hx hb dX5_setThing_8 rfl (lv_at hl 4 rfl) ?_
      refine k_vq S9 w (c_itemAt l _ hR th) hR.1 rfl (cwV 1 hts gX5_setThing_X5_itemAt rfl rfl rfl (by decide +kernel) ⟨Nat.le_of_ble_eq_true rfl, Nat.le_of_ble_eq_true rfl⟩) rfl hl.1 rfl (Nat.le_of_ble_eq_true rfl) dX5_setThing_9 ⟨Nat.le_of_ble_eq_true rfl, Nat.le_of_ble_eq_true rfl⟩ (fun r9 e9 => ?_)
      subst e9
      refine lq_astore (lv' := [(5, va_rf ((itm S th).map ad)), (4, .ref (ad h)), (0, .ref x), (1, .int pl), (2, .int i), (3, .int th)]) hx hb dX5_setThing_12 hl (by decide) rfl (fun ls hl => ?_)
      refine lq_aload hx hb dX5_setThing_14 (lv_at hl 0 rfl) ?_
      refine lq_ifnonnull (tgt := 26) hx hb dX5_setThing_16 (by decide) (fun c_16 => ?_) (fun a_16 c_16 => ?_)
      · refine lv_iload_n hx hb dX5_setThing_19 rfl (lv_at hl 5 rfl) ?_
        refine lv_iconst (v := (-1)) hx hb dX5_setThing_20 (by decide) ?_
        refine lv_icmp_eq (tgt := 26) hx hb dX5_setThing_21 (by decide) (fun c_21 => ?_) (fun c_21 => ?_)
        · refine lv_aload hx hb dX5_setThing_26 (lv_at hl 1 rfl) ?_
          refine lv_iload_n hx hb dX5_setThing_28 rfl (lv_at hl 4 rfl) ?_
          refine lv_iconst (v := 4) hx hb dX5_setThing_29 (by decide) ?_
          refine lv_bipush (v := 6) hx hb dX5_setThing_30 (by decide) ?_
          refine k_si S9 w (c_refusalAt_1 l _ q1 i 4 6) (va_cwS 4 hts gX5_setThing_X5_refusalAt rfl rfl rfl (by decide +kernel) ⟨Nat.le_of_ble_eq_true rfl, Nat.le_of_ble_eq_true rfl⟩) rfl hl.1 rfl (Nat.le_of_ble_eq_true rfl) dX5_setThing_32 ⟨Nat.le_of_ble_eq_true rfl, Nat.le_of_ble_eq_true rfl⟩ (fun v7 e7 => ?_)
          rw [← ref1_row (o := o) (i := i) (lo := 4) (hi := 6) (by omega)] at e7
          refine lv_istore (lv' := [(6, .int v7), (5, va_rf ((itm S th).map ad)), (4, .ref (ad h)), (0, .ref x), (1, .int pl), (2, .int i), (3, .int th)]) hx hb dX5_setThing_35 hl (by decide) (by simp [List.filter, va_rf_cat]) (fun ls hl => ?_)
          refine lv_iload hx hb dX5_setThing_37 (lv_at hl 0 rfl) ?_
          refine lv_if_ne (tgt := 77) hx hb dX5_setThing_39 (by decide) (fun c_39 => ?_) (fun c_39 => ?_)
          · refine lv_iload hx hb dX5_setThing_77 (lv_at hl 0 rfl) ?_
            exact ew_i S9 hr hlk w (by rw [e7] at c_39; rw [st_no (fun q => q.2 c_21) i_2 ho c_39, e7]; exact ⟨rfl, ad, ar, hR⟩) dX5_setThing_79 (by decide) (by decide)
          · obtain ⟨z1, z2, z3, z4⟩ := ref1_zero (a := 4) (b := 6) (e7.symm.trans c_39) (by decide) (by decide) (hI.ob ho).1
            have z5 := inE_in z3 (by have := (hI.ob ho).2; omega)
            refine lv_aload hx hb dX5_setThing_42 (lv_at hl 2 rfl) ?_
            refine r_inst S9 w q1 (by decide) 1 (by decide) (by decide +kernel) (v := 1) rfl dX5_setThing_44 ?_
            refine lv_if_eq (tgt := 77) hx hb dX5_setThing_47 (by decide) (fun c_47 => absurd c_47 (by decide)) (fun c_47 => ?_)
            refine lv_aload hx hb dX5_setThing_50 (lv_at hl 2 rfl) ?_
            refine r_cast S9 w q1 (by decide) 1 (by decide) rfl (by decide +kernel) dX5_setThing_52 ?_
            refine lv_astore (lv' := [(7, .ref (ad h)), (6, .int v7), (5, va_rf ((itm S th).map ad)), (4, .ref (ad h)), (0, .ref x), (1, .int pl), (2, .int i), (3, .int th)]) hx hb dX5_setThing_55 hl (by decide) rfl (fun ls hl => ?_)
            refine lv_aload hx hb dX5_setThing_57 (lv_at hl 0 rfl) ?_
            refine lq_aload hx hb dX5_setThing_59 (lv_at hl 2 rfl) ?_
            refine k_vi S9 w (u_isFitFor l _ hR hI q1 hk hm (itm S th) (hI.it th)) q1 rfl (cwV 1 hts gX5_setThing_X2_isFitFor rfl rfl rfl (by decide +kernel) ⟨Nat.le_of_ble_eq_true rfl, Nat.le_of_ble_eq_true rfl⟩) rfl hl.1 rfl (Nat.le_of_ble_eq_true rfl) dX5_setThing_61 ⟨Nat.le_of_ble_eq_true rfl, Nat.le_of_ble_eq_true rfl⟩ (fun v10 e10 => ?_)
            refine lv_if_ne (tgt := 69) hx hb dX5_setThing_64 (by decide) (fun c_64 => ?_) (fun c_64 => ?_)
            · refine lv_aload hx hb dX5_setThing_69 (lv_at hl 0 rfl) ?_
              refine lv_iload_n hx hb dX5_setThing_71 rfl (lv_at hl 6 rfl) ?_
              refine lq_aload hx hb dX5_setThing_72 (lv_at hl 2 rfl) ?_
              refine kw_vv S9 w (u_putObject l _ hR q1 (q4 hk hm) i z5 (itm S th) (hI.it th)) q1 rfl (cwV 2 hts gX5_setThing_X2_putObject rfl rfl rfl (by decide +kernel) ⟨Nat.le_of_ble_eq_true rfl, Nat.le_of_ble_eq_true rfl⟩) rfl hl.1 rfl (Nat.le_of_ble_eq_true rfl) dX5_setThing_74 ⟨Nat.le_of_ble_eq_true rfl, Nat.le_of_ble_eq_true rfl⟩ (fun u8 H8 lc8 p8 w8 => ?_)
              have hR8 := RpX.els w.2.1 hR ho hk hm p8 (by rw [map_up])
              refine lv_iload hx hb dX5_setThing_77 (lv_at hl 1 rfl) ?_
              exact ew_i S9 hr hlk w8 (by rw [st_ok (fun q => q.2 c_21) i_2 ho (e7.symm.trans c_39) (by rw [e10] at c_64; by_cases hf : fitE S (o_k o) (itm S th) = true; exact hf; simp [hf] at c_64), c_39]; exact ⟨rfl, ad, ar, hR8⟩) dX5_setThing_79 (by decide) (by decide)
            · refine lv_iconst (v := 5) hx hb dX5_setThing_67 (by decide) ?_
              exact ew_i S9 hr hlk w (by rw [st_bad (fun q => q.2 c_21) i_2 ho (e7.symm.trans c_39) (by rw [e10] at c_64; by_cases hf : fitE S (o_k o) (itm S th) = true; (simp [hf] at c_64); simpa using hf)]; exact ⟨rfl, ad, ar, hR⟩) dX5_setThing_68 (by decide) (by decide)
        · refine lv_iconst (v := 1) hx hb dX5_setThing_24 (by decide) ?_
          exact ew_i S9 hr hlk w (by rw [st_1 (map_ad_none c_16) c_21]; exact ⟨rfl, ad, ar, hR⟩) dX5_setThing_25 (by decide) (by decide)
      · refine lv_aload hx hb dX5_setThing_26 (lv_at hl 1 rfl) ?_
        refine lv_iload_n hx hb dX5_setThing_28 rfl (lv_at hl 4 rfl) ?_
        refine lv_iconst (v := 4) hx hb dX5_setThing_29 (by decide) ?_
        refine lv_bipush (v := 6) hx hb dX5_setThing_30 (by decide) ?_
        refine k_si S9 w (c_refusalAt_1 l _ q1 i 4 6) (va_cwS 4 hts gX5_setThing_X5_refusalAt rfl rfl rfl (by decide +kernel) ⟨Nat.le_of_ble_eq_true rfl, Nat.le_of_ble_eq_true rfl⟩) rfl hl.1 rfl (Nat.le_of_ble_eq_true rfl) dX5_setThing_32 ⟨Nat.le_of_ble_eq_true rfl, Nat.le_of_ble_eq_true rfl⟩ (fun v7 e7 => ?_)
        rw [← ref1_row (o := o) (i := i) (lo := 4) (hi := 6) (by omega)] at e7
        refine lv_istore (lv' := [(6, .int v7), (5, va_rf ((itm S th).map ad)), (4, .ref (ad h)), (0, .ref x), (1, .int pl), (2, .int i), (3, .int th)]) hx hb dX5_setThing_35 hl (by decide) (by simp [List.filter, va_rf_cat]) (fun ls hl => ?_)
        refine lv_iload hx hb dX5_setThing_37 (lv_at hl 0 rfl) ?_
        refine lv_if_ne (tgt := 77) hx hb dX5_setThing_39 (by decide) (fun c_39 => ?_) (fun c_39 => ?_)
        · refine lv_iload hx hb dX5_setThing_77 (lv_at hl 0 rfl) ?_
          exact ew_i S9 hr hlk w (by rw [e7] at c_39; rw [st_no (fun q => map_ad_some c_16 q.1) i_2 ho c_39, e7]; exact ⟨rfl, ad, ar, hR⟩) dX5_setThing_79 (by decide) (by decide)
        · obtain ⟨z1, z2, z3, z4⟩ := ref1_zero (a := 4) (b := 6) (e7.symm.trans c_39) (by decide) (by decide) (hI.ob ho).1
          have z5 := inE_in z3 (by have := (hI.ob ho).2; omega)
          refine lv_aload hx hb dX5_setThing_42 (lv_at hl 2 rfl) ?_
          refine r_inst S9 w q1 (by decide) 1 (by decide) (by decide +kernel) (v := 1) rfl dX5_setThing_44 ?_
          refine lv_if_eq (tgt := 77) hx hb dX5_setThing_47 (by decide) (fun c_47 => absurd c_47 (by decide)) (fun c_47 => ?_)
          refine lv_aload hx hb dX5_setThing_50 (lv_at hl 2 rfl) ?_
          refine r_cast S9 w q1 (by decide) 1 (by decide) rfl (by decide +kernel) dX5_setThing_52 ?_
          refine lv_astore (lv' := [(7, .ref (ad h)), (6, .int v7), (5, va_rf ((itm S th).map ad)), (4, .ref (ad h)), (0, .ref x), (1, .int pl), (2, .int i), (3, .int th)]) hx hb dX5_setThing_55 hl (by decide) rfl (fun ls hl => ?_)
          refine lv_aload hx hb dX5_setThing_57 (lv_at hl 0 rfl) ?_
          refine lq_aload hx hb dX5_setThing_59 (lv_at hl 2 rfl) ?_
          refine k_vi S9 w (u_isFitFor l _ hR hI q1 hk hm (itm S th) (hI.it th)) q1 rfl (cwV 1 hts gX5_setThing_X2_isFitFor rfl rfl rfl (by decide +kernel) ⟨Nat.le_of_ble_eq_true rfl, Nat.le_of_ble_eq_true rfl⟩) rfl hl.1 rfl (Nat.le_of_ble_eq_true rfl) dX5_setThing_61 ⟨Nat.le_of_ble_eq_true rfl, Nat.le_of_ble_eq_true rfl⟩ (fun v10 e10 => ?_)
          refine lv_if_ne (tgt := 69) hx hb dX5_setThing_64 (by decide) (fun c_64 => ?_) (fun c_64 => ?_)
          · refine lv_aload hx hb dX5_setThing_69 (lv_at hl 0 rfl) ?_
            refine lv_iload_n hx hb dX5_setThing_71 rfl (lv_at hl 6 rfl) ?_
            refine lq_aload hx hb dX5_setThing_72 (lv_at hl 2 rfl) ?_
            refine kw_vv S9 w (u_putObject l _ hR q1 (q4 hk hm) i z5 (itm S th) (hI.it th)) q1 rfl (cwV 2 hts gX5_setThing_X2_putObject rfl rfl rfl (by decide +kernel) ⟨Nat.le_of_ble_eq_true rfl, Nat.le_of_ble_eq_true rfl⟩) rfl hl.1 rfl (Nat.le_of_ble_eq_true rfl) dX5_setThing_74 ⟨Nat.le_of_ble_eq_true rfl, Nat.le_of_ble_eq_true rfl⟩ (fun u8 H8 lc8 p8 w8 => ?_)
            have hR8 := RpX.els w.2.1 hR ho hk hm p8 (by rw [map_up])
            refine lv_iload hx hb dX5_setThing_77 (lv_at hl 1 rfl) ?_
            exact ew_i S9 hr hlk w8 (by rw [st_ok (fun q => map_ad_some c_16 q.1) i_2 ho (e7.symm.trans c_39) (by rw [e10] at c_64; by_cases hf : fitE S (o_k o) (itm S th) = true; exact hf; simp [hf] at c_64), c_39]; exact ⟨rfl, ad, ar, hR8⟩) dX5_setThing_79 (by decide) (by decide)
          · refine lv_iconst (v := 5) hx hb dX5_setThing_67 (by decide) ?_
            exact ew_i S9 hr hlk w (by rw [st_bad (fun q => map_ad_some c_16 q.1) i_2 ho (e7.symm.trans c_39) (by rw [e10] at c_64; by_cases hf : fitE S (o_k o) (itm S th) = true; (simp [hf] at c_64); simpa using hf)]; exact ⟨rfl, ad, ar, hR⟩) dX5_setThing_68 (by decide) (by decide)
    · rw [o_thg hk] at q1
      refine lv_astore (lv' := [(4, .ref (ad h)), (0, .ref x), (1, .int pl), (2, .int i), (3, .int th)]) hx hb dX5_setThing_5 hl (by decide) rfl (fun ls hl => ?_)
      refine lv_aload_n hx hb dX5_setThing_7 rfl (lv_at hl 1 rfl) ?_
      refine lv_iload_n hx hb dX5_setThing_8 rfl (lv_at hl 4 rfl) ?_
      refine k_vq S9 w (c_itemAt l _ hR th) hR.1 rfl (cwV 1 hts gX5_setThing_X5_itemAt rfl rfl rfl (by decide +kernel) ⟨Nat.le_of_ble_eq_true rfl, Nat.le_of_ble_eq_true rfl⟩) rfl hl.1 rfl (Nat.le_of_ble_eq_true rfl) dX5_setThing_9 ⟨Nat.le_of_ble_eq_true rfl, Nat.le_of_ble_eq_true rfl⟩ (fun r9 e9 => ?_)
      subst e9
      refine lq_astore (lv' := [(5, va_rf ((itm S th).map ad)), (4, .ref (ad h)), (0, .ref x), (1, .int pl), (2, .int i), (3, .int th)]) hx hb dX5_setThing_12 hl (by decide) rfl (fun ls hl => ?_)
      refine lq_aload hx hb dX5_setThing_14 (lv_at hl 0 rfl) ?_
      refine lq_ifnonnull (tgt := 26) hx hb dX5_setThing_16 (by decide) (fun c_16 => ?_) (fun a_16 c_16 => ?_)
      · refine lv_iload_n hx hb dX5_setThing_19 rfl (lv_at hl 5 rfl) ?_
        refine lv_iconst (v := (-1)) hx hb dX5_setThing_20 (by decide) ?_
        refine lv_icmp_eq (tgt := 26) hx hb dX5_setThing_21 (by decide) (fun c_21 => ?_) (fun c_21 => ?_)
        · refine lv_aload hx hb dX5_setThing_26 (lv_at hl 1 rfl) ?_
          refine lv_iload_n hx hb dX5_setThing_28 rfl (lv_at hl 4 rfl) ?_
          refine lv_iconst (v := 4) hx hb dX5_setThing_29 (by decide) ?_
          refine lv_bipush (v := 6) hx hb dX5_setThing_30 (by decide) ?_
          refine k_si S9 w (c_refusalAt_2 l _ q1 i 4 6) (va_cwS 4 hts gX5_setThing_X5_refusalAt rfl rfl rfl (by decide +kernel) ⟨Nat.le_of_ble_eq_true rfl, Nat.le_of_ble_eq_true rfl⟩) rfl hl.1 rfl (Nat.le_of_ble_eq_true rfl) dX5_setThing_32 ⟨Nat.le_of_ble_eq_true rfl, Nat.le_of_ble_eq_true rfl⟩ (fun v7 e7 => ?_)
          rw [← ref1_thg (o := o) (i := i) (lo := 4) (hi := 6) hk] at e7
          refine lv_istore (lv' := [(6, .int v7), (5, va_rf ((itm S th).map ad)), (4, .ref (ad h)), (0, .ref x), (1, .int pl), (2, .int i), (3, .int th)]) hx hb dX5_setThing_35 hl (by decide) (by simp [List.filter, va_rf_cat]) (fun ls hl => ?_)
          refine lv_iload hx hb dX5_setThing_37 (lv_at hl 0 rfl) ?_
          refine lv_if_ne (tgt := 77) hx hb dX5_setThing_39 (by decide) (fun c_39 => ?_) (fun c_39 => ?_)
          · refine lv_iload hx hb dX5_setThing_77 (lv_at hl 0 rfl) ?_
            exact ew_i S9 hr hlk w (by rw [e7] at c_39; rw [st_no (fun q => q.2 c_21) i_2 ho c_39, e7]; exact ⟨rfl, ad, ar, hR⟩) dX5_setThing_79 (by decide) (by decide)
          · exact absurd ((ref1_thg hk).symm.trans (e7.symm.trans c_39)) (by decide)
        · refine lv_iconst (v := 1) hx hb dX5_setThing_24 (by decide) ?_
          exact ew_i S9 hr hlk w (by rw [st_1 (map_ad_none c_16) c_21]; exact ⟨rfl, ad, ar, hR⟩) dX5_setThing_25 (by decide) (by decide)
      · refine lv_aload hx hb dX5_setThing_26 (lv_at hl 1 rfl) ?_
        refine lv_iload_n hx hb dX5_setThing_28 rfl (lv_at hl 4 rfl) ?_
        refine lv_iconst (v := 4) hx hb dX5_setThing_29 (by decide) ?_
        refine lv_bipush (v := 6) hx hb dX5_setThing_30 (by decide) ?_
        refine k_si S9 w (c_refusalAt_2 l _ q1 i 4 6) (va_cwS 4 hts gX5_setThing_X5_refusalAt rfl rfl rfl (by decide +kernel) ⟨Nat.le_of_ble_eq_true rfl, Nat.le_of_ble_eq_true rfl⟩) rfl hl.1 rfl (Nat.le_of_ble_eq_true rfl) dX5_setThing_32 ⟨Nat.le_of_ble_eq_true rfl, Nat.le_of_ble_eq_true rfl⟩ (fun v7 e7 => ?_)
        rw [← ref1_thg (o := o) (i := i) (lo := 4) (hi := 6) hk] at e7
        refine lv_istore (lv' := [(6, .int v7), (5, va_rf ((itm S th).map ad)), (4, .ref (ad h)), (0, .ref x), (1, .int pl), (2, .int i), (3, .int th)]) hx hb dX5_setThing_35 hl (by decide) (by simp [List.filter, va_rf_cat]) (fun ls hl => ?_)
        refine lv_iload hx hb dX5_setThing_37 (lv_at hl 0 rfl) ?_
        refine lv_if_ne (tgt := 77) hx hb dX5_setThing_39 (by decide) (fun c_39 => ?_) (fun c_39 => ?_)
        · refine lv_iload hx hb dX5_setThing_77 (lv_at hl 0 rfl) ?_
          exact ew_i S9 hr hlk w (by rw [e7] at c_39; rw [st_no (fun q => map_ad_some c_16 q.1) i_2 ho c_39, e7]; exact ⟨rfl, ad, ar, hR⟩) dX5_setThing_79 (by decide) (by decide)
        · exact absurd ((ref1_thg hk).symm.trans (e7.symm.trans c_39)) (by decide)

set_option maxHeartbeats 4000000 in
set_option maxRecDepth 100000 in
theorem c_get (l : Launch) {G : Gt} {ws : va_W} (sz : Nat) {x sh li : Nat} {ad ar : Nat → Nat} {S : St} (hR : RpX G x sh li ad ar S ws) (hI : Inv S) (pl i : Int32) : Met l yX5_get wsX5_get ({ frames := 2, cells := 0, slots := 0, locals := 45 } : Room) (Pw G [.ref x, .int pl, .int i] ws sz) (va_Ql (fun (r : Int64) (u : va_W) => r = (sp_get S pl i).1 ∧ ∃ ad2 ar2, RpX G x sh li ad2 ar2 (sp_get S pl i).2 u) (Bw G ws sz) (va_A ws sz)) 0 0 (va_A ws sz) := by
  refine Met_pw (cc := cX5_get) (maxL := 5) (ret := (some .long)) (by decide) rfl (Nat.le_of_ble_eq_true rfl) ?_
  intro p e s m below meth c ls hsz S9 hr hlk hnm w hl
  subst hsz
  replace S9 : CallFix p m c cX5_get 5 s _ wsX5_get RX5 := S9
  have hx := S9.1
  have hb := S9.2.1
  have hown := S9.2.2.2.1
  have hts := S9.2.2.2.2
  replace hl : lv_has ls 5 [(0, .ref x), (1, .int pl), (2, .int i)] := hl
  refine lv_aload_n hx hb dX5_get_0 rfl (lv_at hl 0 rfl) ?_
  refine lv_iload_n hx hb dX5_get_1 rfl (lv_at hl 1 rfl) ?_
  refine kx_itemAt S9 w hR hI gX5_get_X5_itemAt hl.1 (Nat.le_of_ble_eq_true rfl) dX5_get_2 ⟨Nat.le_of_ble_eq_true rfl, Nat.le_of_ble_eq_true rfl⟩ ⟨Nat.le_of_ble_eq_true rfl, Nat.le_of_ble_eq_true rfl⟩ (fun i_2 => ?_) (fun h o i_2 ho => ?_)
  · refine lv_astore_nN (lv' := [(3, .null), (0, .ref x), (1, .int pl), (2, .int i)]) hx hb dX5_get_5 rfl hl (by decide) rfl (fun ls hl => ?_)
    refine lv_aload_n hx hb dX5_get_6 rfl (lv_at hl 1 rfl) ?_
    refine lv_aload_nN hx hb dX5_get_7 rfl (lv_at hl 0 rfl) ?_
    refine lv_iload_n hx hb dX5_get_8 rfl (lv_at hl 3 rfl) ?_
    refine lv_iconst (v := 0) hx hb dX5_get_9 (by decide) ?_
    refine lv_bipush (v := 6) hx hb dX5_get_10 (by decide) ?_
    refine k_si S9 w (c_refusalAt_N l _ i 0 6) (va_cwS 4 hts gX5_get_X5_refusalAt rfl rfl rfl (by decide +kernel) ⟨Nat.le_of_ble_eq_true rfl, Nat.le_of_ble_eq_true rfl⟩) rfl hl.1 rfl (Nat.le_of_ble_eq_true rfl) dX5_get_12 ⟨Nat.le_of_ble_eq_true rfl, Nat.le_of_ble_eq_true rfl⟩ (fun v7 e7 => ?_)
    refine r_put (ref := "SpanMover") S9 w hR.1 rfl (by decide +kernel) tyX5_ok nmX5 4 (by decide) (by decide +kernel) (Or.inl rfl) rfl rfl rfl (Nat.le_of_ble_eq_true rfl) dX5_get_15 (fun ws8 H8 lc8 u8 w8 => ?_)
    have hR8 := RpX.sc w.2.1 hR u8 (oX_set sh li (s_c S) 2 (by decide) v7)
    replace hR8 : RpX G x sh li ad ar (s_u S, s_o S, s_s S, s_l S, upd (s_c S) 2 v7) ws8 := hR8
    have hx8 : hp ws8 x (.inr (3, [.ref sh, .ref li, .int (s_c S 0), .int (s_c S 1), .int v7, .int (s_c S 3), .int (s_c S 4), .int (s_c S 5), .int (s_c S 6)])) := hR8.1
    refine lv_aload_n hx hb dX5_get_18 rfl (lv_at hl 1 rfl) ?_
    refine r_get (ref := "SpanMover") S9 w8 hx8 rfl (by decide +kernel) 4 (by decide) (by decide +kernel) (Or.inl rfl) rfl dX5_get_19 ?_
    refine lv_if_ne (tgt := 45) hx hb dX5_get_22 (by decide) (fun c_22 => ?_) (fun c_22 => ?_)
    · refine lv_aload_n hx hb dX5_get_45 rfl (lv_at hl 1 rfl) ?_
      refine r_get (ref := "SpanMover") S9 w8 hx8 rfl (by decide +kernel) 4 (by decide) (by decide +kernel) (Or.inl rfl) rfl dX5_get_46 ?_
      refine lv_if_ne (tgt := 75) hx hb dX5_get_49 (by decide) (fun c_49 => ?_) (fun c_49 => absurd c_49 c_22)
      refine lv_lconst (v := 0) hx hb dX5_get_75 (by decide) ?_
      exact ew_l S9 hr hlk w8 (by rw [show sp_get S pl i = (0, s_sc S (upd (s_c S) 2 v7)) from by rw [e7]; simp [sp_get, obj_none i_2, ref1]]; exact ⟨rfl, ad, ar, hR8⟩) dX5_get_76 (by decide) (by decide)
    · exact absurd (e7.symm.trans c_22) (by decide)
  · obtain ⟨dk, kd, q1, q2, q3, q4⟩ := hR.2.2.2.1 h o ho
    rcases (show o_k o ≤ 3 ∨ (4 ≤ o_k o ∧ o_k o ≤ 6) ∨ 7 ≤ o_k o by omega) with hk | ⟨hk, hm⟩ | hk
    · rw [o_num hk] at q1
      refine lv_astore_n (lv' := [(3, .ref (ad h)), (0, .ref x), (1, .int pl), (2, .int i)]) hx hb dX5_get_5 rfl hl (by decide) rfl (fun ls hl => ?_)
      refine lv_aload_n hx hb dX5_get_6 rfl (lv_at hl 1 rfl) ?_
      refine lv_aload_n hx hb dX5_get_7 rfl (lv_at hl 0 rfl) ?_
      refine lv_iload_n hx hb dX5_get_8 rfl (lv_at hl 3 rfl) ?_
      refine lv_iconst (v := 0) hx hb dX5_get_9 (by decide) ?_
      refine lv_bipush (v := 6) hx hb dX5_get_10 (by decide) ?_
      refine k_si S9 w (c_refusalAt_0 l _ q1 i 0 6) (va_cwS 4 hts gX5_get_X5_refusalAt rfl rfl rfl (by decide +kernel) ⟨Nat.le_of_ble_eq_true rfl, Nat.le_of_ble_eq_true rfl⟩) rfl hl.1 rfl (Nat.le_of_ble_eq_true rfl) dX5_get_12 ⟨Nat.le_of_ble_eq_true rfl, Nat.le_of_ble_eq_true rfl⟩ (fun v7 e7 => ?_)
      rw [← ref1_row (o := o) (i := i) (lo := 0) (hi := 6) (by omega)] at e7
      refine r_put (ref := "SpanMover") S9 w hR.1 rfl (by decide +kernel) tyX5_ok nmX5 4 (by decide) (by decide +kernel) (Or.inl rfl) rfl rfl rfl (Nat.le_of_ble_eq_true rfl) dX5_get_15 (fun ws8 H8 lc8 u8 w8 => ?_)
      have hR8 := RpX.sc w.2.1 hR u8 (oX_set sh li (s_c S) 2 (by decide) v7)
      replace hR8 : RpX G x sh li ad ar (s_u S, s_o S, s_s S, s_l S, upd (s_c S) 2 v7) ws8 := hR8
      have hx8 : hp ws8 x (.inr (3, [.ref sh, .ref li, .int (s_c S 0), .int (s_c S 1), .int v7, .int (s_c S 3), .int (s_c S 4), .int (s_c S 5), .int (s_c S 6)])) := hR8.1
      obtain ⟨dk, kd, q1, q2, q3, q4⟩ := hR8.2.2.2.1 h o ho
      rw [o_num hk] at q1
      refine lv_aload_n hx hb dX5_get_18 rfl (lv_at hl 1 rfl) ?_
      refine r_get (ref := "SpanMover") S9 w8 hx8 rfl (by decide +kernel) 4 (by decide) (by decide +kernel) (Or.inl rfl) rfl dX5_get_19 ?_
      refine lv_if_ne (tgt := 45) hx hb dX5_get_22 (by decide) (fun c_22 => ?_) (fun c_22 => ?_)
      · refine lv_aload_n hx hb dX5_get_45 rfl (lv_at hl 1 rfl) ?_
        refine r_get (ref := "SpanMover") S9 w8 hx8 rfl (by decide +kernel) 4 (by decide) (by decide +kernel) (Or.inl rfl) rfl dX5_get_46 ?_
        refine lv_if_ne (tgt := 75) hx hb dX5_get_49 (by decide) (fun c_49 => ?_) (fun c_49 => absurd c_49 c_22)
        refine lv_lconst (v := 0) hx hb dX5_get_75 (by decide) ?_
        exact ew_l S9 hr hlk w8 (by rw [show sp_get S pl i = (0, s_sc S (upd (s_c S) 2 v7)) from by have e8 : ¬ ref1 (some o) i 0 6 = 0 := (by rw [← e7]; exact c_22); rw [e7]; simp [sp_get, obj_some i_2 ho, e8]]; exact ⟨rfl, ad, ar, hR8⟩) dX5_get_76 (by decide) (by decide)
      · obtain ⟨z1, z2, z3, z4⟩ := ref1_zero (a := 0) (b := 6) (e7.symm.trans c_22) (by decide) (by decide) (hI.ob ho).1
        have z5 := inE_in z3 (by have := (hI.ob ho).2; omega)
        refine lv_aload_n hx hb dX5_get_25 rfl (lv_at hl 0 rfl) ?_
        refine r_inst S9 w8 q1 (by decide) 0 (by decide) (by decide +kernel) (v := 1) rfl dX5_get_26 ?_
        refine lv_if_eq (tgt := 45) hx hb dX5_get_29 (by decide) (fun c_29 => absurd c_29 (by decide)) (fun c_29 => ?_)
        refine lv_aload_n hx hb dX5_get_32 rfl (lv_at hl 0 rfl) ?_
        refine r_cast S9 w8 q1 (by decide) 0 (by decide) rfl (by decide +kernel) dX5_get_33 ?_
        refine lv_astore (lv' := [(4, .ref (ad h)), (3, .ref (ad h)), (0, .ref x), (1, .int pl), (2, .int i)]) hx hb dX5_get_36 hl (by decide) rfl (fun ls hl => ?_)
        refine lv_aload hx hb dX5_get_38 (lv_at hl 0 rfl) ?_
        refine lv_iload_n hx hb dX5_get_40 rfl (lv_at hl 4 rfl) ?_
        refine k_vl S9 w8 (c_numberAt l _ q1 (q3 hk) i z5) q1 rfl (cwV 1 hts gX5_get_X1_numberAt rfl rfl rfl (by decide +kernel) ⟨Nat.le_of_ble_eq_true rfl, Nat.le_of_ble_eq_true rfl⟩) rfl hl.1 rfl (Nat.le_of_ble_eq_true rfl) dX5_get_41 ⟨Nat.le_of_ble_eq_true rfl, Nat.le_of_ble_eq_true rfl⟩ (fun v10 e10 => ?_)
        exact ew_l S9 hr hlk w8 (by rw [show sp_get S pl i = (v10, s_sc S (upd (s_c S) 2 v7)) from by have e8 := e7.symm.trans c_22; rw [e10, e7]; simp [sp_get, obj_some i_2 ho, e8, hk]]; exact ⟨rfl, ad, ar, hR8⟩) dX5_get_44 (by decide) (by decide)
    · rw [o_obj hk hm] at q1
      refine lv_astore_n (lv' := [(3, .ref (ad h)), (0, .ref x), (1, .int pl), (2, .int i)]) hx hb dX5_get_5 rfl hl (by decide) rfl (fun ls hl => ?_)
      refine lv_aload_n hx hb dX5_get_6 rfl (lv_at hl 1 rfl) ?_
      refine lv_aload_n hx hb dX5_get_7 rfl (lv_at hl 0 rfl) ?_
      refine lv_iload_n hx hb dX5_get_8 rfl (lv_at hl 3 rfl) ?_
      refine lv_iconst (v := 0) hx hb dX5_get_9 (by decide) ?_
      refine lv_bipush (v := 6) hx hb dX5_get_10 (by decide) ?_
      refine k_si S9 w (c_refusalAt_1 l _ q1 i 0 6) (va_cwS 4 hts gX5_get_X5_refusalAt rfl rfl rfl (by decide +kernel) ⟨Nat.le_of_ble_eq_true rfl, Nat.le_of_ble_eq_true rfl⟩) rfl hl.1 rfl (Nat.le_of_ble_eq_true rfl) dX5_get_12 ⟨Nat.le_of_ble_eq_true rfl, Nat.le_of_ble_eq_true rfl⟩ (fun v7 e7 => ?_)
      rw [← ref1_row (o := o) (i := i) (lo := 0) (hi := 6) (by omega)] at e7
      refine r_put (ref := "SpanMover") S9 w hR.1 rfl (by decide +kernel) tyX5_ok nmX5 4 (by decide) (by decide +kernel) (Or.inl rfl) rfl rfl rfl (Nat.le_of_ble_eq_true rfl) dX5_get_15 (fun ws8 H8 lc8 u8 w8 => ?_)
      have hR8 := RpX.sc w.2.1 hR u8 (oX_set sh li (s_c S) 2 (by decide) v7)
      replace hR8 : RpX G x sh li ad ar (s_u S, s_o S, s_s S, s_l S, upd (s_c S) 2 v7) ws8 := hR8
      have hx8 : hp ws8 x (.inr (3, [.ref sh, .ref li, .int (s_c S 0), .int (s_c S 1), .int v7, .int (s_c S 3), .int (s_c S 4), .int (s_c S 5), .int (s_c S 6)])) := hR8.1
      obtain ⟨dk, kd, q1, q2, q3, q4⟩ := hR8.2.2.2.1 h o ho
      rw [o_obj hk hm] at q1
      refine lv_aload_n hx hb dX5_get_18 rfl (lv_at hl 1 rfl) ?_
      refine r_get (ref := "SpanMover") S9 w8 hx8 rfl (by decide +kernel) 4 (by decide) (by decide +kernel) (Or.inl rfl) rfl dX5_get_19 ?_
      refine lv_if_ne (tgt := 45) hx hb dX5_get_22 (by decide) (fun c_22 => ?_) (fun c_22 => ?_)
      · refine lv_aload_n hx hb dX5_get_45 rfl (lv_at hl 1 rfl) ?_
        refine r_get (ref := "SpanMover") S9 w8 hx8 rfl (by decide +kernel) 4 (by decide) (by decide +kernel) (Or.inl rfl) rfl dX5_get_46 ?_
        refine lv_if_ne (tgt := 75) hx hb dX5_get_49 (by decide) (fun c_49 => ?_) (fun c_49 => absurd c_49 c_22)
        refine lv_lconst (v := 0) hx hb dX5_get_75 (by decide) ?_
        exact ew_l S9 hr hlk w8 (by rw [show sp_get S pl i = (0, s_sc S (upd (s_c S) 2 v7)) from by have e8 : ¬ ref1 (some o) i 0 6 = 0 := (by rw [← e7]; exact c_22); rw [e7]; simp [sp_get, obj_some i_2 ho, e8]]; exact ⟨rfl, ad, ar, hR8⟩) dX5_get_76 (by decide) (by decide)
      · obtain ⟨z1, z2, z3, z4⟩ := ref1_zero (a := 0) (b := 6) (e7.symm.trans c_22) (by decide) (by decide) (hI.ob ho).1
        have z5 := inE_in z3 (by have := (hI.ob ho).2; omega)
        refine lv_aload_n hx hb dX5_get_25 rfl (lv_at hl 0 rfl) ?_
        refine r_inst S9 w8 q1 (by decide) 0 (by decide) (by decide +kernel) (v := 0) rfl dX5_get_26 ?_
        refine lv_if_eq (tgt := 45) hx hb dX5_get_29 (by decide) (fun c_29 => ?_) (fun c_29 => absurd c_29 (by decide))
        refine lv_aload_n hx hb dX5_get_45 rfl (lv_at hl 1 rfl) ?_
        refine r_get (ref := "SpanMover") S9 w8 hx8 rfl (by decide +kernel) 4 (by decide) (by decide +kernel) (Or.inl rfl) rfl dX5_get_46 ?_
        refine lv_if_ne (tgt := 75) hx hb dX5_get_49 (by decide) (fun c_49 => absurd c_22 c_49) (fun c_49 => ?_)
        refine lv_aload_n hx hb dX5_get_52 rfl (lv_at hl 0 rfl) ?_
        refine r_inst S9 w8 q1 (by decide) 1 (by decide) (by decide +kernel) (v := 1) rfl dX5_get_53 ?_
        refine lv_if_eq (tgt := 75) hx hb dX5_get_56 (by decide) (fun c_56 => absurd c_56 (by decide)) (fun c_56 => ?_)
        refine lv_aload_n hx hb dX5_get_59 rfl (lv_at hl 0 rfl) ?_
        refine r_cast S9 w8 q1 (by decide) 1 (by decide) rfl (by decide +kernel) dX5_get_60 ?_
        refine lv_astore (lv' := [(4, .ref (ad h)), (3, .ref (ad h)), (0, .ref x), (1, .int pl), (2, .int i)]) hx hb dX5_get_63 hl (by decide) rfl (fun ls hl => ?_)
        refine lv_aload hx hb dX5_get_65 (lv_at hl 0 rfl) ?_
        refine lv_iload_n hx hb dX5_get_67 rfl (lv_at hl 4 rfl) ?_
        refine k_vq S9 w8 (c_objectAt l _ q1 (q4 hk hm) i z5) q1 rfl (cwV 1 hts gX5_get_X2_objectAt rfl rfl rfl (by decide +kernel) ⟨Nat.le_of_ble_eq_true rfl, Nat.le_of_ble_eq_true rfl⟩) rfl hl.1 rfl (Nat.le_of_ble_eq_true rfl) dX5_get_68 ⟨Nat.le_of_ble_eq_true rfl, Nat.le_of_ble_eq_true rfl⟩ (fun r10 e10 => ?_)
        subst e10
        refine k_sl S9 w8 (u_toldAs l _ hR8 (hI.sc _ rfl rfl) (o_e o i.toNatClampNeg) (hI.el ho hk hm _)) (va_cwS 1 hts gX5_get_X5_toldAs rfl rfl rfl (by decide +kernel) ⟨Nat.le_of_ble_eq_true rfl, Nat.le_of_ble_eq_true rfl⟩) rfl hl.1 rfl (Nat.le_of_ble_eq_true rfl) dX5_get_71 ⟨Nat.le_of_ble_eq_true rfl, Nat.le_of_ble_eq_true rfl⟩ (fun v11 e11 => ?_)
        exact ew_l S9 hr hlk w8 (by rw [show sp_get S pl i = (v11, s_sc S (upd (s_c S) 2 v7)) from by have e8 := e7.symm.trans c_22; have e11 : v11 = told (obj S (o_e o i.toNatClampNeg)) := e11; rw [e11, e7]; simp [sp_get, obj_some i_2 ho, e8, show ¬ o_k o ≤ 3 by omega]]; exact ⟨rfl, ad, ar, hR8⟩) dX5_get_74 (by decide) (by decide)
    · rw [o_thg hk] at q1
      refine lv_astore_n (lv' := [(3, .ref (ad h)), (0, .ref x), (1, .int pl), (2, .int i)]) hx hb dX5_get_5 rfl hl (by decide) rfl (fun ls hl => ?_)
      refine lv_aload_n hx hb dX5_get_6 rfl (lv_at hl 1 rfl) ?_
      refine lv_aload_n hx hb dX5_get_7 rfl (lv_at hl 0 rfl) ?_
      refine lv_iload_n hx hb dX5_get_8 rfl (lv_at hl 3 rfl) ?_
      refine lv_iconst (v := 0) hx hb dX5_get_9 (by decide) ?_
      refine lv_bipush (v := 6) hx hb dX5_get_10 (by decide) ?_
      refine k_si S9 w (c_refusalAt_2 l _ q1 i 0 6) (va_cwS 4 hts gX5_get_X5_refusalAt rfl rfl rfl (by decide +kernel) ⟨Nat.le_of_ble_eq_true rfl, Nat.le_of_ble_eq_true rfl⟩) rfl hl.1 rfl (Nat.le_of_ble_eq_true rfl) dX5_get_12 ⟨Nat.le_of_ble_eq_true rfl, Nat.le_of_ble_eq_true rfl⟩ (fun v7 e7 => ?_)
      rw [← ref1_thg (o := o) (i := i) (lo := 0) (hi := 6) hk] at e7
      refine r_put (ref := "SpanMover") S9 w hR.1 rfl (by decide +kernel) tyX5_ok nmX5 4 (by decide) (by decide +kernel) (Or.inl rfl) rfl rfl rfl (Nat.le_of_ble_eq_true rfl) dX5_get_15 (fun ws8 H8 lc8 u8 w8 => ?_)
      have hR8 := RpX.sc w.2.1 hR u8 (oX_set sh li (s_c S) 2 (by decide) v7)
      replace hR8 : RpX G x sh li ad ar (s_u S, s_o S, s_s S, s_l S, upd (s_c S) 2 v7) ws8 := hR8
      have hx8 : hp ws8 x (.inr (3, [.ref sh, .ref li, .int (s_c S 0), .int (s_c S 1), .int v7, .int (s_c S 3), .int (s_c S 4), .int (s_c S 5), .int (s_c S 6)])) := hR8.1
      obtain ⟨dk, kd, q1, q2, q3, q4⟩ := hR8.2.2.2.1 h o ho
      rw [o_thg hk] at q1
      refine lv_aload_n hx hb dX5_get_18 rfl (lv_at hl 1 rfl) ?_
      refine r_get (ref := "SpanMover") S9 w8 hx8 rfl (by decide +kernel) 4 (by decide) (by decide +kernel) (Or.inl rfl) rfl dX5_get_19 ?_
      refine lv_if_ne (tgt := 45) hx hb dX5_get_22 (by decide) (fun c_22 => ?_) (fun c_22 => ?_)
      · refine lv_aload_n hx hb dX5_get_45 rfl (lv_at hl 1 rfl) ?_
        refine r_get (ref := "SpanMover") S9 w8 hx8 rfl (by decide +kernel) 4 (by decide) (by decide +kernel) (Or.inl rfl) rfl dX5_get_46 ?_
        refine lv_if_ne (tgt := 75) hx hb dX5_get_49 (by decide) (fun c_49 => ?_) (fun c_49 => absurd c_49 c_22)
        refine lv_lconst (v := 0) hx hb dX5_get_75 (by decide) ?_
        exact ew_l S9 hr hlk w8 (by rw [show sp_get S pl i = (0, s_sc S (upd (s_c S) 2 v7)) from by have e8 : ¬ ref1 (some o) i 0 6 = 0 := (by rw [← e7]; exact c_22); rw [e7]; simp [sp_get, obj_some i_2 ho, e8]]; exact ⟨rfl, ad, ar, hR8⟩) dX5_get_76 (by decide) (by decide)
      · exact absurd ((ref1_thg hk).symm.trans (e7.symm.trans c_22)) (by decide)
end
section
theorem pI_ne {p4 : Nat} (h : p4 < 400) : ¬ pI (some p4) = -1 := by
  show ¬ nI p4 = -1
  intro q
  have e1 : (nI p4).toInt = p4 := nI_toInt (by omega)
  rw [q] at e1
  have e2 : (-1 : Int32).toInt = -1 := rfl
  omega
set_option maxHeartbeats 4000000 in
set_option maxRecDepth 100000 in
theorem c_innerNumber_N (l : Launch) {G : Gt} {ws : va_W} (sz : Nat) {x sh li : Nat} {ad ar : Nat → Nat} {S : St} (hR : RpX G x sh li ad ar S ws) (k : Int32) : Met l yX5_innerNumber wsX5_innerNumber ({ frames := 1, cells := 0, slots := 0, locals := 21 } : Room) (Pw G [.ref x, .null, .int k] ws sz) (va_Ql (fun (r : Int64) (u : va_W) => r = 0 ∧ RpX G x sh li ad ar (s_sc S (upd (s_c S) 2 5)) u) (Bw G ws sz) (va_A ws sz)) 0 0 (va_A ws sz) := by
  refine Met_pw (cc := cX5_innerNumber) (maxL := 4) (ret := (some .long)) (by decide) rfl (Nat.le_of_ble_eq_true rfl) ?_
  intro p e s m below meth c ls hsz S9 hr hlk hnm w hl
  subst hsz
  replace S9 : CallFix p m c cX5_innerNumber 4 s _ wsX5_innerNumber RX5 := S9
  have hx := S9.1
  have hb := S9.2.1
  have hown := S9.2.2.2.1
  have hts := S9.2.2.2.2
  replace hl : lv_has ls 4 [(0, .ref x), (1, .null), (2, .int k)] := hl
  refine lv_aload_nN hx hb dX5_innerNumber_0 rfl (lv_at hl 1 rfl) ?_
  refine lv_instN hx hb dX5_innerNumber_1 ?_
  refine lv_if_eq (tgt := 15) hx hb dX5_innerNumber_4 (by decide) (fun c_4 => ?_) (fun c_4 => absurd c_4 (by decide))
  refine lv_aload_n hx hb dX5_innerNumber_15 rfl (lv_at hl 0 rfl) ?_
  refine lv_iconst (v := 5) hx hb dX5_innerNumber_16 (by decide) ?_
  refine r_put (ref := "SpanMover") S9 w hR.1 rfl (by decide +kernel) tyX5_ok nmX5 4 (by decide) (by decide +kernel) (Or.inl rfl) rfl rfl rfl (Nat.le_of_ble_eq_true rfl) dX5_innerNumber_17 (fun ws8 H8 lc8 u8 w8 => ?_)
  have hR8 := RpX.sc w.2.1 hR u8 (oX_set sh li (s_c S) 2 (by decide) 5)
  replace hR8 : RpX G x sh li ad ar (s_u S, s_o S, s_s S, s_l S, upd (s_c S) 2 5) ws8 := hR8
  have hx8 : hp ws8 x (.inr (3, [.ref sh, .ref li, .int (s_c S 0), .int (s_c S 1), .int (5 : Int32), .int (s_c S 3), .int (s_c S 4), .int (s_c S 5), .int (s_c S 6)])) := hR8.1
  refine lv_lconst (v := 0) hx hb dX5_innerNumber_20 (by decide) ?_
  exact ew_l S9 hr hlk w8 (⟨rfl, hR8⟩) dX5_innerNumber_21 (by decide) (by decide)

set_option maxHeartbeats 4000000 in
set_option maxRecDepth 100000 in
theorem c_innerNumber_0 (l : Launch) {G : Gt} {ws : va_W} (sz : Nat) {x sh li : Nat} {ad ar : Nat → Nat} {S : St} (hR : RpX G x sh li ad ar S ws) (hI : Inv S) {h : Nat} {o : Ob} (ho : s_o S h = some o) (hk : o_k o ≤ 3) (k : Int32) : Met l yX5_innerNumber wsX5_innerNumber ({ frames := 1, cells := 0, slots := 0, locals := 21 } : Room) (Pw G [.ref x, .ref (ad h), .int k] ws sz) (va_Ql (fun (r : Int64) (u : va_W) => if inE (o_n o) k then (r = o_f o k.toNatClampNeg ∧ RpX G x sh li ad ar S u) else (r = 0 ∧ RpX G x sh li ad ar (s_sc S (upd (s_c S) 2 6)) u)) (Bw G ws sz) (va_A ws sz)) 0 0 (va_A ws sz) := by
  refine Met_pw (cc := cX5_innerNumber) (maxL := 4) (ret := (some .long)) (by decide) rfl (Nat.le_of_ble_eq_true rfl) ?_
  intro p e s m below meth c ls hsz S9 hr hlk hnm w hl
  subst hsz
  replace S9 : CallFix p m c cX5_innerNumber 4 s _ wsX5_innerNumber RX5 := S9
  have hx := S9.1
  have hb := S9.2.1
  have hown := S9.2.2.2.1
  have hts := S9.2.2.2.2
  replace hl : lv_has ls 4 [(0, .ref x), (1, .ref (ad h)), (2, .int k)] := hl
  obtain ⟨dk, kd, q1, q2, q3, q4⟩ := hR.2.2.2.1 h o ho
  rw [o_num hk] at q1
  refine lv_aload_n hx hb dX5_innerNumber_0 rfl (lv_at hl 1 rfl) ?_
  refine r_inst S9 w q1 (by decide) 0 (by decide) (by decide +kernel) (v := 1) rfl dX5_innerNumber_1 ?_
  refine lv_if_eq (tgt := 15) hx hb dX5_innerNumber_4 (by decide) (fun c_4 => absurd c_4 (by decide)) (fun c_4 => ?_)
  refine lv_aload_n hx hb dX5_innerNumber_7 rfl (lv_at hl 1 rfl) ?_
  refine r_cast S9 w q1 (by decide) 0 (by decide) rfl (by decide +kernel) dX5_innerNumber_8 ?_
  refine lv_astore_n (lv' := [(3, .ref (ad h)), (0, .ref x), (1, .ref (ad h)), (2, .int k)]) hx hb dX5_innerNumber_11 rfl hl (by decide) rfl (fun ls hl => ?_)
  refine lv_goto (tgt := 22) hx hb dX5_innerNumber_12 (by decide) ?_
  refine lv_aload_n hx hb dX5_innerNumber_22 rfl (lv_at hl 0 rfl) ?_
  refine lv_iload_n hx hb dX5_innerNumber_23 rfl (lv_at hl 3 rfl) ?_
  refine k_ui S9 w (c_hasElement_0 l _ q1 k) q1 rfl (va_cwU 1 hts gX5_innerNumber_X3_hasElement_u143X1 rfl rfl rfl rfl (by decide +kernel) ⟨Nat.le_of_ble_eq_true rfl, Nat.le_of_ble_eq_true rfl⟩) rfl hl.1 rfl (Nat.le_of_ble_eq_true rfl) dX5_innerNumber_24 ⟨Nat.le_of_ble_eq_true rfl, Nat.le_of_ble_eq_true rfl⟩ (fun v7 e7 => ?_)
  refine lv_if_ne (tgt := 38) hx hb dX5_innerNumber_27 (by decide) (fun c_27 => ?_) (fun c_27 => ?_)
  · refine lv_aload_n hx hb dX5_innerNumber_38 rfl (lv_at hl 0 rfl) ?_
    refine lv_iload_n hx hb dX5_innerNumber_39 rfl (lv_at hl 3 rfl) ?_
    refine k_vl S9 w (c_numberAt l _ q1 (q3 hk) k (inE_in (by rw [e7] at c_27; by_cases hE : inE (o_n o) k; exact hE; simp [hE] at c_27) (by have := (hI.ob ho).2; omega))) q1 rfl (cwV 1 hts gX5_innerNumber_X1_numberAt rfl rfl rfl (by decide +kernel) ⟨Nat.le_of_ble_eq_true rfl, Nat.le_of_ble_eq_true rfl⟩) rfl hl.1 rfl (Nat.le_of_ble_eq_true rfl) dX5_innerNumber_40 ⟨Nat.le_of_ble_eq_true rfl, Nat.le_of_ble_eq_true rfl⟩ (fun v10 e10 => ?_)
    exact ew_l S9 hr hlk w (by rw [e7] at c_27; have hE : inE (o_n o) k := (by by_cases hE : inE (o_n o) k; exact hE; simp [hE] at c_27); exact Eq.mpr (if_pos hE) ⟨e10, hR⟩) dX5_innerNumber_43 (by decide) (by decide)
  · refine lv_aload_n hx hb dX5_innerNumber_30 rfl (lv_at hl 1 rfl) ?_
    refine lv_bipush (v := 6) hx hb dX5_innerNumber_31 (by decide) ?_
    refine r_put (ref := "SpanMover") S9 w hR.1 rfl (by decide +kernel) tyX5_ok nmX5 4 (by decide) (by decide +kernel) (Or.inl rfl) rfl rfl rfl (Nat.le_of_ble_eq_true rfl) dX5_innerNumber_33 (fun ws8 H8 lc8 u8 w8 => ?_)
    have hR8 := RpX.sc w.2.1 hR u8 (oX_set sh li (s_c S) 2 (by decide) 6)
    replace hR8 : RpX G x sh li ad ar (s_u S, s_o S, s_s S, s_l S, upd (s_c S) 2 6) ws8 := hR8
    have hx8 : hp ws8 x (.inr (3, [.ref sh, .ref li, .int (s_c S 0), .int (s_c S 1), .int (6 : Int32), .int (s_c S 3), .int (s_c S 4), .int (s_c S 5), .int (s_c S 6)])) := hR8.1
    refine lv_lconst (v := 0) hx hb dX5_innerNumber_36 (by decide) ?_
    exact ew_l S9 hr hlk w8 (by rw [e7] at c_27; have hE : ¬ inE (o_n o) k := (fun hE => by simp [hE] at c_27); exact Eq.mpr (if_neg hE) ⟨rfl, hR8⟩) dX5_innerNumber_37 (by decide) (by decide)

set_option maxHeartbeats 4000000 in
set_option maxRecDepth 100000 in
theorem c_deep (l : Launch) {G : Gt} {ws : va_W} (sz : Nat) {x sh li : Nat} {ad ar : Nat → Nat} {S : St} (hR : RpX G x sh li ad ar S ws) (hI : Inv S) (pl i k : Int32) : Met l yX5_deep wsX5_deep ({ frames := 2, cells := 0, slots := 0, locals := 45 } : Room) (Pw G [.ref x, .int pl, .int i, .int k] ws sz) (va_Ql (fun (r : Int64) (u : va_W) => r = (sp_deep S pl i k).1 ∧ ∃ ad2 ar2, RpX G x sh li ad2 ar2 (sp_deep S pl i k).2 u) (Bw G ws sz) (va_A ws sz)) 0 0 (va_A ws sz) := by
  refine Met_pw (cc := cX5_deep) (maxL := 6) (ret := (some .long)) (by decide) rfl (Nat.le_of_ble_eq_true rfl) ?_
  intro p e s m below meth c ls hsz S9 hr hlk hnm w hl
  subst hsz
  replace S9 : CallFix p m c cX5_deep 6 s _ wsX5_deep RX5 := S9
  have hx := S9.1
  have hb := S9.2.1
  have hown := S9.2.2.2.1
  have hts := S9.2.2.2.2
  replace hl : lv_has ls 6 [(0, .ref x), (1, .int pl), (2, .int i), (3, .int k)] := hl
  refine lv_aload_n hx hb dX5_deep_0 rfl (lv_at hl 0 rfl) ?_
  refine lv_iload_n hx hb dX5_deep_1 rfl (lv_at hl 1 rfl) ?_
  refine kx_itemAt S9 w hR hI gX5_deep_X5_itemAt hl.1 (Nat.le_of_ble_eq_true rfl) dX5_deep_2 ⟨Nat.le_of_ble_eq_true rfl, Nat.le_of_ble_eq_true rfl⟩ ⟨Nat.le_of_ble_eq_true rfl, Nat.le_of_ble_eq_true rfl⟩ (fun i_2 => ?_) (fun h o i_2 ho => ?_)
  · refine lv_astoreN (lv' := [(4, .null), (0, .ref x), (1, .int pl), (2, .int i), (3, .int k)]) hx hb dX5_deep_5 hl (by decide) rfl (fun ls hl => ?_)
    refine lv_aload_n hx hb dX5_deep_7 rfl (lv_at hl 1 rfl) ?_
    refine lv_aloadN hx hb dX5_deep_8 (lv_at hl 0 rfl) ?_
    refine lv_iload_n hx hb dX5_deep_10 rfl (lv_at hl 3 rfl) ?_
    refine lv_iconst (v := 4) hx hb dX5_deep_11 (by decide) ?_
    refine lv_iconst (v := 4) hx hb dX5_deep_12 (by decide) ?_
    refine k_si S9 w (c_refusalAt_N l _ i 4 4) (va_cwS 4 hts gX5_deep_X5_refusalAt rfl rfl rfl (by decide +kernel) ⟨Nat.le_of_ble_eq_true rfl, Nat.le_of_ble_eq_true rfl⟩) rfl hl.1 rfl (Nat.le_of_ble_eq_true rfl) dX5_deep_13 ⟨Nat.le_of_ble_eq_true rfl, Nat.le_of_ble_eq_true rfl⟩ (fun v7 e7 => ?_)
    refine r_put (ref := "SpanMover") S9 w hR.1 rfl (by decide +kernel) tyX5_ok nmX5 4 (by decide) (by decide +kernel) (Or.inl rfl) rfl rfl rfl (Nat.le_of_ble_eq_true rfl) dX5_deep_16 (fun ws8 H8 lc8 u8 w8 => ?_)
    have hR8 := RpX.sc w.2.1 hR u8 (oX_set sh li (s_c S) 2 (by decide) v7)
    replace hR8 : RpX G x sh li ad ar (s_u S, s_o S, s_s S, s_l S, upd (s_c S) 2 v7) ws8 := hR8
    have hx8 : hp ws8 x (.inr (3, [.ref sh, .ref li, .int (s_c S 0), .int (s_c S 1), .int v7, .int (s_c S 3), .int (s_c S 4), .int (s_c S 5), .int (s_c S 6)])) := hR8.1
    refine lv_aload_n hx hb dX5_deep_19 rfl (lv_at hl 1 rfl) ?_
    refine r_get (ref := "SpanMover") S9 w8 hx8 rfl (by decide +kernel) 4 (by decide) (by decide +kernel) (Or.inl rfl) rfl dX5_deep_20 ?_
    refine lv_if_ne (tgt := 53) hx hb dX5_deep_23 (by decide) (fun c_23 => ?_) (fun c_23 => ?_)
    · refine lv_lconst (v := 0) hx hb dX5_deep_53 (by decide) ?_
      exact ew_l S9 hr hlk w8 (by rw [show sp_deep S pl i k = (0, s_sc S (upd (s_c S) 2 v7)) from by rw [e7]; simp [sp_deep, obj_none i_2]]; exact ⟨rfl, ad, ar, hR8⟩) dX5_deep_54 (by decide) (by decide)
    · exact absurd (e7.symm.trans c_23) (by decide)
  · obtain ⟨dk, kd, q1, q2, q3, q4⟩ := hR.2.2.2.1 h o ho
    rcases (show o_k o ≤ 3 ∨ (4 ≤ o_k o ∧ o_k o ≤ 6) ∨ 7 ≤ o_k o by omega) with hk | ⟨hk, hm⟩ | hk
    · rw [o_num hk] at q1
      refine lv_astore (lv' := [(4, .ref (ad h)), (0, .ref x), (1, .int pl), (2, .int i), (3, .int k)]) hx hb dX5_deep_5 hl (by decide) rfl (fun ls hl => ?_)
      refine lv_aload_n hx hb dX5_deep_7 rfl (lv_at hl 1 rfl) ?_
      refine lv_aload hx hb dX5_deep_8 (lv_at hl 0 rfl) ?_
      refine lv_iload_n hx hb dX5_deep_10 rfl (lv_at hl 3 rfl) ?_
      refine lv_iconst (v := 4) hx hb dX5_deep_11 (by decide) ?_
      refine lv_iconst (v := 4) hx hb dX5_deep_12 (by decide) ?_
      refine k_si S9 w (c_refusalAt_0 l _ q1 i 4 4) (va_cwS 4 hts gX5_deep_X5_refusalAt rfl rfl rfl (by decide +kernel) ⟨Nat.le_of_ble_eq_true rfl, Nat.le_of_ble_eq_true rfl⟩) rfl hl.1 rfl (Nat.le_of_ble_eq_true rfl) dX5_deep_13 ⟨Nat.le_of_ble_eq_true rfl, Nat.le_of_ble_eq_true rfl⟩ (fun v7 e7 => ?_)
      rw [← ref1_row (o := o) (i := i) (lo := 4) (hi := 4) (by omega)] at e7
      refine r_put (ref := "SpanMover") S9 w hR.1 rfl (by decide +kernel) tyX5_ok nmX5 4 (by decide) (by decide +kernel) (Or.inl rfl) rfl rfl rfl (Nat.le_of_ble_eq_true rfl) dX5_deep_16 (fun ws8 H8 lc8 u8 w8 => ?_)
      have hR8 := RpX.sc w.2.1 hR u8 (oX_set sh li (s_c S) 2 (by decide) v7)
      replace hR8 : RpX G x sh li ad ar (s_u S, s_o S, s_s S, s_l S, upd (s_c S) 2 v7) ws8 := hR8
      have hx8 : hp ws8 x (.inr (3, [.ref sh, .ref li, .int (s_c S 0), .int (s_c S 1), .int v7, .int (s_c S 3), .int (s_c S 4), .int (s_c S 5), .int (s_c S 6)])) := hR8.1
      obtain ⟨dk, kd, q1, q2, q3, q4⟩ := hR8.2.2.2.1 h o ho
      rw [o_num hk] at q1
      refine lv_aload_n hx hb dX5_deep_19 rfl (lv_at hl 1 rfl) ?_
      refine r_get (ref := "SpanMover") S9 w8 hx8 rfl (by decide +kernel) 4 (by decide) (by decide +kernel) (Or.inl rfl) rfl dX5_deep_20 ?_
      refine lv_if_ne (tgt := 53) hx hb dX5_deep_23 (by decide) (fun c_23 => ?_) (fun c_23 => ?_)
      · refine lv_lconst (v := 0) hx hb dX5_deep_53 (by decide) ?_
        exact ew_l S9 hr hlk w8 (by rw [show sp_deep S pl i k = (0, s_sc S (upd (s_c S) 2 v7)) from by have e8 : ¬ ref1 (some o) i 4 4 = 0 := (by rw [← e7]; exact c_23); rw [e7]; simp [sp_deep, obj_some i_2 ho, e8]]; exact ⟨rfl, ad, ar, hR8⟩) dX5_deep_54 (by decide) (by decide)
      · obtain ⟨z1, z2, z3, z4⟩ := ref1_zero (a := 4) (b := 4) (e7.symm.trans c_23) (by decide) (by decide) (hI.ob ho).1
        omega
    · rw [o_obj hk hm] at q1
      refine lv_astore (lv' := [(4, .ref (ad h)), (0, .ref x), (1, .int pl), (2, .int i), (3, .int k)]) hx hb dX5_deep_5 hl (by decide) rfl (fun ls hl => ?_)
      refine lv_aload_n hx hb dX5_deep_7 rfl (lv_at hl 1 rfl) ?_
      refine lv_aload hx hb dX5_deep_8 (lv_at hl 0 rfl) ?_
      refine lv_iload_n hx hb dX5_deep_10 rfl (lv_at hl 3 rfl) ?_
      refine lv_iconst (v := 4) hx hb dX5_deep_11 (by decide) ?_
      refine lv_iconst (v := 4) hx hb dX5_deep_12 (by decide) ?_
      refine k_si S9 w (c_refusalAt_1 l _ q1 i 4 4) (va_cwS 4 hts gX5_deep_X5_refusalAt rfl rfl rfl (by decide +kernel) ⟨Nat.le_of_ble_eq_true rfl, Nat.le_of_ble_eq_true rfl⟩) rfl hl.1 rfl (Nat.le_of_ble_eq_true rfl) dX5_deep_13 ⟨Nat.le_of_ble_eq_true rfl, Nat.le_of_ble_eq_true rfl⟩ (fun v7 e7 => ?_)
      rw [← ref1_row (o := o) (i := i) (lo := 4) (hi := 4) (by omega)] at e7
      refine r_put (ref := "SpanMover") S9 w hR.1 rfl (by decide +kernel) tyX5_ok nmX5 4 (by decide) (by decide +kernel) (Or.inl rfl) rfl rfl rfl (Nat.le_of_ble_eq_true rfl) dX5_deep_16 (fun ws8 H8 lc8 u8 w8 => ?_)
      have hR8 := RpX.sc w.2.1 hR u8 (oX_set sh li (s_c S) 2 (by decide) v7)
      replace hR8 : RpX G x sh li ad ar (s_u S, s_o S, s_s S, s_l S, upd (s_c S) 2 v7) ws8 := hR8
      have hx8 : hp ws8 x (.inr (3, [.ref sh, .ref li, .int (s_c S 0), .int (s_c S 1), .int v7, .int (s_c S 3), .int (s_c S 4), .int (s_c S 5), .int (s_c S 6)])) := hR8.1
      obtain ⟨dk, kd, q1, q2, q3, q4⟩ := hR8.2.2.2.1 h o ho
      rw [o_obj hk hm] at q1
      refine lv_aload_n hx hb dX5_deep_19 rfl (lv_at hl 1 rfl) ?_
      refine r_get (ref := "SpanMover") S9 w8 hx8 rfl (by decide +kernel) 4 (by decide) (by decide +kernel) (Or.inl rfl) rfl dX5_deep_20 ?_
      refine lv_if_ne (tgt := 53) hx hb dX5_deep_23 (by decide) (fun c_23 => ?_) (fun c_23 => ?_)
      · refine lv_lconst (v := 0) hx hb dX5_deep_53 (by decide) ?_
        exact ew_l S9 hr hlk w8 (by rw [show sp_deep S pl i k = (0, s_sc S (upd (s_c S) 2 v7)) from by have e8 : ¬ ref1 (some o) i 4 4 = 0 := (by rw [← e7]; exact c_23); rw [e7]; simp [sp_deep, obj_some i_2 ho, e8]]; exact ⟨rfl, ad, ar, hR8⟩) dX5_deep_54 (by decide) (by decide)
      · obtain ⟨z1, z2, z3, z4⟩ := ref1_zero (a := 4) (b := 4) (e7.symm.trans c_23) (by decide) (by decide) (hI.ob ho).1
        have z5 := inE_in z3 (by have := (hI.ob ho).2; omega)
        refine lv_aload hx hb dX5_deep_26 (lv_at hl 0 rfl) ?_
        refine r_inst S9 w8 q1 (by decide) 1 (by decide) (by decide +kernel) (v := 1) rfl dX5_deep_28 ?_
        refine lv_if_eq (tgt := 53) hx hb dX5_deep_31 (by decide) (fun c_31 => absurd c_31 (by decide)) (fun c_31 => ?_)
        refine lv_aload hx hb dX5_deep_34 (lv_at hl 0 rfl) ?_
        refine r_cast S9 w8 q1 (by decide) 1 (by decide) rfl (by decide +kernel) dX5_deep_36 ?_
        refine lv_astore (lv' := [(5, .ref (ad h)), (4, .ref (ad h)), (0, .ref x), (1, .int pl), (2, .int i), (3, .int k)]) hx hb dX5_deep_39 hl (by decide) rfl (fun ls hl => ?_)
        refine lv_aload_n hx hb dX5_deep_41 rfl (lv_at hl 2 rfl) ?_
        refine lv_aload hx hb dX5_deep_42 (lv_at hl 0 rfl) ?_
        refine lv_iload_n hx hb dX5_deep_44 rfl (lv_at hl 4 rfl) ?_
        refine k_vq S9 w8 (c_objectAt l _ q1 (q4 hk hm) i z5) q1 rfl (cwV 1 hts gX5_deep_X2_objectAt rfl rfl rfl (by decide +kernel) ⟨Nat.le_of_ble_eq_true rfl, Nat.le_of_ble_eq_true rfl⟩) rfl hl.1 rfl (Nat.le_of_ble_eq_true rfl) dX5_deep_45 ⟨Nat.le_of_ble_eq_true rfl, Nat.le_of_ble_eq_true rfl⟩ (fun r10 e10 => ?_)
        subst e10
        refine lv_iload_n hx hb dX5_deep_48 rfl (lv_at hl 5 rfl) ?_
        cases he : o_e o i.toNatClampNeg with
        | none =>
          refine kw_vl S9 w8 (c_innerNumber_N l _ hR8 k) hx8 rfl (cwV 2 hts gX5_deep_X5_innerNumber rfl rfl rfl (by decide +kernel) ⟨Nat.le_of_ble_eq_true rfl, Nat.le_of_ble_eq_true rfl⟩) rfl hl.1 rfl (Nat.le_of_ble_eq_true rfl) dX5_deep_49 ⟨Nat.le_of_ble_eq_true rfl, Nat.le_of_ble_eq_true rfl⟩ (fun v12 u12 H12 lc12 p12 w12 => ?_)
          exact ew_l S9 hr hlk w12 (by rw [show sp_deep S pl i k = (v12, s_sc S (upd (s_c S) 2 5)) from by have e8 := e7.symm.trans c_23; have hO4 : obj S (o_e o i.toNatClampNeg) = none := (by rw [he]; rfl); rw [p12.1]; simp [sp_deep, obj_some i_2 ho, e8, hO4]]; exact ⟨rfl, ad, ar, by have := p12.2; simp only [s_c, upd_upd] at this; exact this⟩) dX5_deep_52 (by decide) (by decide)
        | some h4 =>
          obtain ⟨o4, ho4, hf4⟩ := hI.2.2.2.2.2.2 h o ho hk hm _ h4 he
          have hk4 : o_k o = 4 := by omega
          have hk0 : o_k o4 = 0 := by simpa [fitK, hk4] using hf4
          refine kw_vl S9 w8 (c_innerNumber_0 l _ hR8 (hI.sc _ rfl rfl) ho4 (by omega) k) hx8 rfl (cwV 2 hts gX5_deep_X5_innerNumber rfl rfl rfl (by decide +kernel) ⟨Nat.le_of_ble_eq_true rfl, Nat.le_of_ble_eq_true rfl⟩) rfl hl.1 rfl (Nat.le_of_ble_eq_true rfl) dX5_deep_49 ⟨Nat.le_of_ble_eq_true rfl, Nat.le_of_ble_eq_true rfl⟩ (fun v12 u12 H12 lc12 p12 w12 => ?_)
          exact ew_l S9 hr hlk w12 (by have e8 := e7.symm.trans c_23; have hO4 : obj S (o_e o i.toNatClampNeg) = some o4 := (by rw [he]; exact ho4); exact Or.elim (Decidable.em (inE (o_n o4) k)) (fun hE => by rw [if_pos hE] at p12; rw [show sp_deep S pl i k = (v12, s_sc S (upd (s_c S) 2 0)) from by rw [p12.1]; simp [sp_deep, obj_some i_2 ho, e8, hO4, hE]]; exact ⟨rfl, ad, ar, (by have := p12.2; rw [c_23] at this; exact this)⟩) (fun hE => by rw [if_neg hE] at p12; rw [show sp_deep S pl i k = (v12, s_sc S (upd (s_c S) 2 6)) from by rw [p12.1]; simp [sp_deep, obj_some i_2 ho, e8, hO4, hE]]; exact ⟨rfl, ad, ar, (by have := p12.2; simp only [s_c, upd_upd] at this; exact this)⟩)) dX5_deep_52 (by decide) (by decide)
    · rw [o_thg hk] at q1
      refine lv_astore (lv' := [(4, .ref (ad h)), (0, .ref x), (1, .int pl), (2, .int i), (3, .int k)]) hx hb dX5_deep_5 hl (by decide) rfl (fun ls hl => ?_)
      refine lv_aload_n hx hb dX5_deep_7 rfl (lv_at hl 1 rfl) ?_
      refine lv_aload hx hb dX5_deep_8 (lv_at hl 0 rfl) ?_
      refine lv_iload_n hx hb dX5_deep_10 rfl (lv_at hl 3 rfl) ?_
      refine lv_iconst (v := 4) hx hb dX5_deep_11 (by decide) ?_
      refine lv_iconst (v := 4) hx hb dX5_deep_12 (by decide) ?_
      refine k_si S9 w (c_refusalAt_2 l _ q1 i 4 4) (va_cwS 4 hts gX5_deep_X5_refusalAt rfl rfl rfl (by decide +kernel) ⟨Nat.le_of_ble_eq_true rfl, Nat.le_of_ble_eq_true rfl⟩) rfl hl.1 rfl (Nat.le_of_ble_eq_true rfl) dX5_deep_13 ⟨Nat.le_of_ble_eq_true rfl, Nat.le_of_ble_eq_true rfl⟩ (fun v7 e7 => ?_)
      rw [← ref1_thg (o := o) (i := i) (lo := 4) (hi := 4) hk] at e7
      refine r_put (ref := "SpanMover") S9 w hR.1 rfl (by decide +kernel) tyX5_ok nmX5 4 (by decide) (by decide +kernel) (Or.inl rfl) rfl rfl rfl (Nat.le_of_ble_eq_true rfl) dX5_deep_16 (fun ws8 H8 lc8 u8 w8 => ?_)
      have hR8 := RpX.sc w.2.1 hR u8 (oX_set sh li (s_c S) 2 (by decide) v7)
      replace hR8 : RpX G x sh li ad ar (s_u S, s_o S, s_s S, s_l S, upd (s_c S) 2 v7) ws8 := hR8
      have hx8 : hp ws8 x (.inr (3, [.ref sh, .ref li, .int (s_c S 0), .int (s_c S 1), .int v7, .int (s_c S 3), .int (s_c S 4), .int (s_c S 5), .int (s_c S 6)])) := hR8.1
      obtain ⟨dk, kd, q1, q2, q3, q4⟩ := hR8.2.2.2.1 h o ho
      rw [o_thg hk] at q1
      refine lv_aload_n hx hb dX5_deep_19 rfl (lv_at hl 1 rfl) ?_
      refine r_get (ref := "SpanMover") S9 w8 hx8 rfl (by decide +kernel) 4 (by decide) (by decide +kernel) (Or.inl rfl) rfl dX5_deep_20 ?_
      refine lv_if_ne (tgt := 53) hx hb dX5_deep_23 (by decide) (fun c_23 => ?_) (fun c_23 => ?_)
      · refine lv_lconst (v := 0) hx hb dX5_deep_53 (by decide) ?_
        exact ew_l S9 hr hlk w8 (by rw [show sp_deep S pl i k = (0, s_sc S (upd (s_c S) 2 v7)) from by have e8 : ¬ ref1 (some o) i 4 4 = 0 := (by rw [← e7]; exact c_23); rw [e7]; simp [sp_deep, obj_some i_2 ho, e8]]; exact ⟨rfl, ad, ar, hR8⟩) dX5_deep_54 (by decide) (by decide)
      · exact absurd ((ref1_thg hk).symm.trans (e7.symm.trans c_23)) (by decide)

set_option maxHeartbeats 4000000 in
set_option maxRecDepth 100000 in
theorem c_standLifted_N (l : Launch) {G : Gt} {ws : va_W} (sz : Nat) {x : Nat} : Met l yX5_standLifted wsX5_standLifted ({ frames := 1, cells := 0, slots := 0, locals := 21 } : Room) (Pw G [.ref x, .null] ws sz) (va_Qi (fun (r : Int32) (u : va_W) => r = -5 ∧ u = ws) (Bw G ws sz) (va_A ws sz)) 0 0 (va_A ws sz) := by
  refine Met_pw (cc := cX5_standLifted) (maxL := 3) (ret := (some .int)) (by decide) rfl (Nat.le_of_ble_eq_true rfl) ?_
  intro p e s m below meth c ls hsz S9 hr hlk hnm w hl
  subst hsz
  replace S9 : CallFix p m c cX5_standLifted 3 s _ wsX5_standLifted RX5 := S9
  have hx := S9.1
  have hb := S9.2.1
  have hown := S9.2.2.2.1
  have hts := S9.2.2.2.2
  replace hl : lv_has ls 3 [(0, .ref x), (1, .null)] := hl
  refine lv_aload_nN hx hb dX5_standLifted_0 rfl (lv_at hl 1 rfl) ?_
  refine lv_ifnonnullN hx hb dX5_standLifted_1 ?_
  refine lv_bipush (v := (-5)) hx hb dX5_standLifted_4 (by decide) ?_
  exact ew_i S9 hr hlk w (⟨rfl, rfl⟩) dX5_standLifted_6 (by decide) (by decide)

set_option maxHeartbeats 4000000 in
set_option maxRecDepth 100000 in
theorem c_standLifted_S (l : Launch) {G : Gt} {ws : va_W} (sz : Nat) {x sh li : Nat} {ad ar : Nat → Nat} {S : St} (hR : RpX G x sh li ad ar S ws) {h : Nat} {o : Ob} (ho : s_o S h = some o) : Met l yX5_standLifted wsX5_standLifted ({ frames := 1, cells := 0, slots := 0, locals := 21 } : Room) (Pw G [.ref x, .ref (ad h)] ws sz) (va_Qi (fun (r : Int32) (u : va_W) => match lowE S with | none => r = -6 ∧ RpX G x sh li ad ar S u | some p4 => r = nI p4 ∧ RpX G x sh li ad ar (s_sh S (va_up (s_s S) p4 (some h))) u) (Bw G ws sz) (va_A ws sz)) 0 0 (va_A ws sz) := by
  refine Met_pw (cc := cX5_standLifted) (maxL := 3) (ret := (some .int)) (by decide) rfl (Nat.le_of_ble_eq_true rfl) ?_
  intro p e s m below meth c ls hsz S9 hr hlk hnm w hl
  subst hsz
  replace S9 : CallFix p m c cX5_standLifted 3 s _ wsX5_standLifted RX5 := S9
  have hx := S9.1
  have hb := S9.2.1
  have hown := S9.2.2.2.1
  have hts := S9.2.2.2.2
  replace hl : lv_has ls 3 [(0, .ref x), (1, .ref (ad h))] := hl
  refine lv_aload_n hx hb dX5_standLifted_0 rfl (lv_at hl 1 rfl) ?_
  refine lv_ifnonnull (tgt := 7) hx hb dX5_standLifted_1 (by decide) ?_
  refine lv_aload_n hx hb dX5_standLifted_7 rfl (lv_at hl 0 rfl) ?_
  refine kx_low S9 w hR gX5_standLifted_X5_lowestEmptyPlace hl.1 (Nat.le_of_ble_eq_true rfl) dX5_standLifted_8 ⟨Nat.le_of_ble_eq_true rfl, Nat.le_of_ble_eq_true rfl⟩ ⟨Nat.le_of_ble_eq_true rfl, Nat.le_of_ble_eq_true rfl⟩ (fun v7 e7 => ?_)
  refine lv_istore_n (lv' := [(2, .int v7), (0, .ref x), (1, .ref (ad h))]) hx hb dX5_standLifted_11 rfl hl (by decide) rfl (fun ls hl => ?_)
  refine lv_iload_n hx hb dX5_standLifted_12 rfl (lv_at hl 0 rfl) ?_
  refine lv_iconst (v := (-1)) hx hb dX5_standLifted_13 (by decide) ?_
  refine lv_icmp_ne (tgt := 20) hx hb dX5_standLifted_14 (by decide) (fun c_14 => ?_) (fun c_14 => ?_)
  · refine lv_aload_n hx hb dX5_standLifted_20 rfl (lv_at hl 1 rfl) ?_
    refine r_get (ref := "SpanMover") S9 w hR.1 rfl (by decide +kernel) 0 (by decide) (by decide +kernel) (Or.inl rfl) rfl dX5_standLifted_21 ?_
    refine lv_iload_n hx hb dX5_standLifted_24 rfl (lv_at hl 0 rfl) ?_
    refine lv_aload_n hx hb dX5_standLifted_25 rfl (lv_at hl 2 rfl) ?_
    obtain ⟨p4, hp4⟩ : ∃ p4, lowE S = some p4 := by
      cases hq : lowE S with
      | none => rw [hq] at e7; exact absurd e7 c_14
      | some p4 => exact ⟨p4, rfl⟩
    have hp5 := lowE_lt hp4
    have e8 : v7 = nI p4 := by rw [e7, hp4]; rfl
    obtain ⟨dk, kd, q1, q2, q3, q4⟩ := hR.2.2.2.1 h o ho
    refine r_aast (r := some (ad h)) S9 w hR.2.1 (fun z hz => by cases hz; exact w.any q1 (o_cl3 _)) (by rw [e8]; exact vp_in_nI hp5.1 (by decide)) dX5_standLifted_26 (fun ws8 H8 lc8 u8 w8 => ?_)
    have hR8 := RpX.sf (f := va_up (s_s S) p4 (some h)) w.2.1 hR u8 (by rw [cl_nI e8 (by omega)]; exact congrArg (aT G 400) (map_up (r := some h)))
    refine lv_iload_n hx hb dX5_standLifted_27 rfl (lv_at hl 0 rfl) ?_
    exact ew_i S9 hr hlk w8 (by rw [hp4]; exact ⟨e8, hR8⟩) dX5_standLifted_28 (by decide) (by decide)
  · refine lv_bipush (v := (-6)) hx hb dX5_standLifted_17 (by decide) ?_
    exact ew_i S9 hr hlk w (by cases hq : lowE S with | none => exact ⟨rfl, hR⟩ | some p4 => (have hp5 := lowE_lt hq; rw [hq] at e7; rw [e7] at c_14; exact absurd c_14 (pI_ne hp5.1))) dX5_standLifted_19 (by decide) (by decide)

set_option maxHeartbeats 4000000 in
set_option maxRecDepth 100000 in
theorem c_lift (l : Launch) {G : Gt} {ws : va_W} (sz : Nat) {x sh li : Nat} {ad ar : Nat → Nat} {S : St} (hR : RpX G x sh li ad ar S ws) (hI : Inv S) (pl i : Int32) : Met l yX5_lift wsX5_lift ({ frames := 2, cells := 0, slots := 0, locals := 45 } : Room) (Pw G [.ref x, .int pl, .int i] ws sz) (va_Qi (fun (r : Int32) (u : va_W) => r = (sp_lift S pl i).1 ∧ ∃ ad2 ar2, RpX G x sh li ad2 ar2 (sp_lift S pl i).2 u) (Bw G ws sz) (va_A ws sz)) 0 0 (va_A ws sz) := by
  refine Met_pw (cc := cX5_lift) (maxL := 6) (ret := (some .int)) (by decide) rfl (Nat.le_of_ble_eq_true rfl) ?_
  intro p e s m below meth c ls hsz S9 hr hlk hnm w hl
  subst hsz
  replace S9 : CallFix p m c cX5_lift 6 s _ wsX5_lift RX5 := S9
  have hx := S9.1
  have hb := S9.2.1
  have hown := S9.2.2.2.1
  have hts := S9.2.2.2.2
  replace hl : lv_has ls 6 [(0, .ref x), (1, .int pl), (2, .int i)] := hl
  refine lv_aload_n hx hb dX5_lift_0 rfl (lv_at hl 0 rfl) ?_
  refine lv_iload_n hx hb dX5_lift_1 rfl (lv_at hl 1 rfl) ?_
  refine kx_itemAt S9 w hR hI gX5_lift_X5_itemAt hl.1 (Nat.le_of_ble_eq_true rfl) dX5_lift_2 ⟨Nat.le_of_ble_eq_true rfl, Nat.le_of_ble_eq_true rfl⟩ ⟨Nat.le_of_ble_eq_true rfl, Nat.le_of_ble_eq_true rfl⟩ (fun i_2 => ?_) (fun h o i_2 ho => ?_)
  · refine lv_astore_nN (lv' := [(3, .null), (0, .ref x), (1, .int pl), (2, .int i)]) hx hb dX5_lift_5 rfl hl (by decide) rfl (fun ls hl => ?_)
    refine lv_aload_nN hx hb dX5_lift_6 rfl (lv_at hl 0 rfl) ?_
    refine lv_iload_n hx hb dX5_lift_7 rfl (lv_at hl 3 rfl) ?_
    refine lv_iconst (v := 4) hx hb dX5_lift_8 (by decide) ?_
    refine lv_bipush (v := 6) hx hb dX5_lift_9 (by decide) ?_
    refine k_si S9 w (c_refusalAt_N l _ i 4 6) (va_cwS 4 hts gX5_lift_X5_refusalAt rfl rfl rfl (by decide +kernel) ⟨Nat.le_of_ble_eq_true rfl, Nat.le_of_ble_eq_true rfl⟩) rfl hl.1 rfl (Nat.le_of_ble_eq_true rfl) dX5_lift_11 ⟨Nat.le_of_ble_eq_true rfl, Nat.le_of_ble_eq_true rfl⟩ (fun v7 e7 => ?_)
    refine lv_istore (lv' := [(4, .int v7), (3, .null), (0, .ref x), (1, .int pl), (2, .int i)]) hx hb dX5_lift_14 hl (by decide) rfl (fun ls hl => ?_)
    refine lv_iload hx hb dX5_lift_16 (lv_at hl 0 rfl) ?_
    refine lv_if_ne (tgt := 45) hx hb dX5_lift_18 (by decide) (fun c_18 => ?_) (fun c_18 => ?_)
    · refine lv_iload hx hb dX5_lift_45 (lv_at hl 0 rfl) ?_
      refine lv_ineg hx hb dX5_lift_47 ?_
      refine lv_topi (fun v1 ev1 => ?_)
      exact ew_i S9 hr hlk w (by rw [show sp_lift S pl i = (v1, S) from by rw [ev1, e7]; simp [sp_lift, obj_none i_2]]; exact ⟨rfl, ad, ar, hR⟩) dX5_lift_48 (by decide) (by decide)
    · exact absurd (e7.symm.trans c_18) (by decide)
  · obtain ⟨dk, kd, q1, q2, q3, q4⟩ := hR.2.2.2.1 h o ho
    rcases (show o_k o ≤ 3 ∨ (4 ≤ o_k o ∧ o_k o ≤ 6) ∨ 7 ≤ o_k o by omega) with hk | ⟨hk, hm⟩ | hk
    · rw [o_num hk] at q1
      refine lv_astore_n (lv' := [(3, .ref (ad h)), (0, .ref x), (1, .int pl), (2, .int i)]) hx hb dX5_lift_5 rfl hl (by decide) rfl (fun ls hl => ?_)
      refine lv_aload_n hx hb dX5_lift_6 rfl (lv_at hl 0 rfl) ?_
      refine lv_iload_n hx hb dX5_lift_7 rfl (lv_at hl 3 rfl) ?_
      refine lv_iconst (v := 4) hx hb dX5_lift_8 (by decide) ?_
      refine lv_bipush (v := 6) hx hb dX5_lift_9 (by decide) ?_
      refine k_si S9 w (c_refusalAt_0 l _ q1 i 4 6) (va_cwS 4 hts gX5_lift_X5_refusalAt rfl rfl rfl (by decide +kernel) ⟨Nat.le_of_ble_eq_true rfl, Nat.le_of_ble_eq_true rfl⟩) rfl hl.1 rfl (Nat.le_of_ble_eq_true rfl) dX5_lift_11 ⟨Nat.le_of_ble_eq_true rfl, Nat.le_of_ble_eq_true rfl⟩ (fun v7 e7 => ?_)
      rw [← ref1_row (o := o) (i := i) (lo := 4) (hi := 6) (by omega)] at e7
      refine lv_istore (lv' := [(4, .int v7), (3, .ref (ad h)), (0, .ref x), (1, .int pl), (2, .int i)]) hx hb dX5_lift_14 hl (by decide) rfl (fun ls hl => ?_)
      refine lv_iload hx hb dX5_lift_16 (lv_at hl 0 rfl) ?_
      refine lv_if_ne (tgt := 45) hx hb dX5_lift_18 (by decide) (fun c_18 => ?_) (fun c_18 => ?_)
      · refine lv_iload hx hb dX5_lift_45 (lv_at hl 0 rfl) ?_
        refine lv_ineg hx hb dX5_lift_47 ?_
        refine lv_topi (fun v2 ev2 => ?_)
        exact ew_i S9 hr hlk w (by rw [show sp_lift S pl i = (v2, S) from by have e8 : ¬ ref1 (some o) i 4 6 = 0 := (by rw [← e7]; exact c_18); rw [ev2, e7]; simp [sp_lift, obj_some i_2 ho, e8]]; exact ⟨rfl, ad, ar, hR⟩) dX5_lift_48 (by decide) (by decide)
      · obtain ⟨z1, z2, z3, z4⟩ := ref1_zero (a := 4) (b := 6) (e7.symm.trans c_18) (by decide) (by decide) (hI.ob ho).1
        omega
    · rw [o_obj hk hm] at q1
      refine lv_astore_n (lv' := [(3, .ref (ad h)), (0, .ref x), (1, .int pl), (2, .int i)]) hx hb dX5_lift_5 rfl hl (by decide) rfl (fun ls hl => ?_)
      refine lv_aload_n hx hb dX5_lift_6 rfl (lv_at hl 0 rfl) ?_
      refine lv_iload_n hx hb dX5_lift_7 rfl (lv_at hl 3 rfl) ?_
      refine lv_iconst (v := 4) hx hb dX5_lift_8 (by decide) ?_
      refine lv_bipush (v := 6) hx hb dX5_lift_9 (by decide) ?_
      refine k_si S9 w (c_refusalAt_1 l _ q1 i 4 6) (va_cwS 4 hts gX5_lift_X5_refusalAt rfl rfl rfl (by decide +kernel) ⟨Nat.le_of_ble_eq_true rfl, Nat.le_of_ble_eq_true rfl⟩) rfl hl.1 rfl (Nat.le_of_ble_eq_true rfl) dX5_lift_11 ⟨Nat.le_of_ble_eq_true rfl, Nat.le_of_ble_eq_true rfl⟩ (fun v7 e7 => ?_)
      rw [← ref1_row (o := o) (i := i) (lo := 4) (hi := 6) (by omega)] at e7
      refine lv_istore (lv' := [(4, .int v7), (3, .ref (ad h)), (0, .ref x), (1, .int pl), (2, .int i)]) hx hb dX5_lift_14 hl (by decide) rfl (fun ls hl => ?_)
      refine lv_iload hx hb dX5_lift_16 (lv_at hl 0 rfl) ?_
      refine lv_if_ne (tgt := 45) hx hb dX5_lift_18 (by decide) (fun c_18 => ?_) (fun c_18 => ?_)
      · refine lv_iload hx hb dX5_lift_45 (lv_at hl 0 rfl) ?_
        refine lv_ineg hx hb dX5_lift_47 ?_
        refine lv_topi (fun v3 ev3 => ?_)
        exact ew_i S9 hr hlk w (by rw [show sp_lift S pl i = (v3, S) from by have e8 : ¬ ref1 (some o) i 4 6 = 0 := (by rw [← e7]; exact c_18); rw [ev3, e7]; simp [sp_lift, obj_some i_2 ho, e8]]; exact ⟨rfl, ad, ar, hR⟩) dX5_lift_48 (by decide) (by decide)
      · obtain ⟨z1, z2, z3, z4⟩ := ref1_zero (a := 4) (b := 6) (e7.symm.trans c_18) (by decide) (by decide) (hI.ob ho).1
        have z5 := inE_in z3 (by have := (hI.ob ho).2; omega)
        refine lv_aload_n hx hb dX5_lift_21 rfl (lv_at hl 1 rfl) ?_
        refine r_inst S9 w q1 (by decide) 1 (by decide) (by decide +kernel) (v := 1) rfl dX5_lift_22 ?_
        refine lv_if_eq (tgt := 45) hx hb dX5_lift_25 (by decide) (fun c_25 => absurd c_25 (by decide)) (fun c_25 => ?_)
        refine lv_aload_n hx hb dX5_lift_28 rfl (lv_at hl 1 rfl) ?_
        refine r_cast S9 w q1 (by decide) 1 (by decide) rfl (by decide +kernel) dX5_lift_29 ?_
        refine lv_astore (lv' := [(5, .ref (ad h)), (4, .int v7), (3, .ref (ad h)), (0, .ref x), (1, .int pl), (2, .int i)]) hx hb dX5_lift_32 hl (by decide) rfl (fun ls hl => ?_)
        refine lv_aload_n hx hb dX5_lift_34 rfl (lv_at hl 3 rfl) ?_
        refine lv_aload hx hb dX5_lift_35 (lv_at hl 0 rfl) ?_
        refine lv_iload_n hx hb dX5_lift_37 rfl (lv_at hl 5 rfl) ?_
        refine k_vq S9 w (c_objectAt l _ q1 (q4 hk hm) i z5) q1 rfl (cwV 1 hts gX5_lift_X2_objectAt rfl rfl rfl (by decide +kernel) ⟨Nat.le_of_ble_eq_true rfl, Nat.le_of_ble_eq_true rfl⟩) rfl hl.1 rfl (Nat.le_of_ble_eq_true rfl) dX5_lift_38 ⟨Nat.le_of_ble_eq_true rfl, Nat.le_of_ble_eq_true rfl⟩ (fun r10 e10 => ?_)
        subst e10
        cases he : o_e o i.toNatClampNeg with
        | none =>
          refine kw_vi S9 w (c_standLifted_N l _) hR.1 rfl (cwV 1 hts gX5_lift_X5_standLifted rfl rfl rfl (by decide +kernel) ⟨Nat.le_of_ble_eq_true rfl, Nat.le_of_ble_eq_true rfl⟩) rfl hl.1 rfl (Nat.le_of_ble_eq_true rfl) dX5_lift_41 ⟨Nat.le_of_ble_eq_true rfl, Nat.le_of_ble_eq_true rfl⟩ (fun v12 u12 H12 lc12 p12 w12 => ?_)
          exact ew_i S9 hr hlk w12 (by have e8 := e7.symm.trans c_18; rw [show sp_lift S pl i = (v12, S) from by rw [p12.1]; simp [sp_lift, obj_some i_2 ho, e8, he]]; exact ⟨rfl, ad, ar, by rw [p12.2]; exact hR⟩) dX5_lift_44 (by decide) (by decide)
        | some h4 =>
          obtain ⟨o4, ho4⟩ := hI.el ho hk hm _ h4 he
          refine kw_vi S9 w (c_standLifted_S l _ hR ho4) hR.1 rfl (cwV 1 hts gX5_lift_X5_standLifted rfl rfl rfl (by decide +kernel) ⟨Nat.le_of_ble_eq_true rfl, Nat.le_of_ble_eq_true rfl⟩) rfl hl.1 rfl (Nat.le_of_ble_eq_true rfl) dX5_lift_41 ⟨Nat.le_of_ble_eq_true rfl, Nat.le_of_ble_eq_true rfl⟩ (fun v12 u12 H12 lc12 p12 w12 => ?_)
          exact ew_i S9 hr hlk w12 (by have e8 := e7.symm.trans c_18; cases hq : lowE S with | none => (rw [hq] at p12; rw [show sp_lift S pl i = (v12, S) from by rw [p12.1]; simp [sp_lift, obj_some i_2 ho, e8, he, hq]]; exact ⟨rfl, ad, ar, p12.2⟩) | some p4 => (rw [hq] at p12; rw [show sp_lift S pl i = (v12, s_sh S (va_up (s_s S) p4 (some h4))) from by rw [p12.1]; simp [sp_lift, obj_some i_2 ho, e8, he, hq]]; exact ⟨rfl, ad, ar, p12.2⟩)) dX5_lift_44 (by decide) (by decide)
    · rw [o_thg hk] at q1
      refine lv_astore_n (lv' := [(3, .ref (ad h)), (0, .ref x), (1, .int pl), (2, .int i)]) hx hb dX5_lift_5 rfl hl (by decide) rfl (fun ls hl => ?_)
      refine lv_aload_n hx hb dX5_lift_6 rfl (lv_at hl 0 rfl) ?_
      refine lv_iload_n hx hb dX5_lift_7 rfl (lv_at hl 3 rfl) ?_
      refine lv_iconst (v := 4) hx hb dX5_lift_8 (by decide) ?_
      refine lv_bipush (v := 6) hx hb dX5_lift_9 (by decide) ?_
      refine k_si S9 w (c_refusalAt_2 l _ q1 i 4 6) (va_cwS 4 hts gX5_lift_X5_refusalAt rfl rfl rfl (by decide +kernel) ⟨Nat.le_of_ble_eq_true rfl, Nat.le_of_ble_eq_true rfl⟩) rfl hl.1 rfl (Nat.le_of_ble_eq_true rfl) dX5_lift_11 ⟨Nat.le_of_ble_eq_true rfl, Nat.le_of_ble_eq_true rfl⟩ (fun v7 e7 => ?_)
      rw [← ref1_thg (o := o) (i := i) (lo := 4) (hi := 6) hk] at e7
      refine lv_istore (lv' := [(4, .int v7), (3, .ref (ad h)), (0, .ref x), (1, .int pl), (2, .int i)]) hx hb dX5_lift_14 hl (by decide) rfl (fun ls hl => ?_)
      refine lv_iload hx hb dX5_lift_16 (lv_at hl 0 rfl) ?_
      refine lv_if_ne (tgt := 45) hx hb dX5_lift_18 (by decide) (fun c_18 => ?_) (fun c_18 => ?_)
      · refine lv_iload hx hb dX5_lift_45 (lv_at hl 0 rfl) ?_
        refine lv_ineg hx hb dX5_lift_47 ?_
        refine lv_topi (fun v4 ev4 => ?_)
        exact ew_i S9 hr hlk w (by rw [show sp_lift S pl i = (v4, S) from by have e8 : ¬ ref1 (some o) i 4 6 = 0 := (by rw [← e7]; exact c_18); rw [ev4, e7]; simp [sp_lift, obj_some i_2 ho, e8]]; exact ⟨rfl, ad, ar, hR⟩) dX5_lift_48 (by decide) (by decide)
      · exact absurd ((ref1_thg hk).symm.trans (e7.symm.trans c_18)) (by decide)
end
section
theorem W_at {p : Program} {l : Launch} {e : Env} {R : Room} {s : State} {m : MethodId} {args : Array Value} {below : List Frame} {meth : Method} {c : Code} {H H' : Heap} {locs locs' : List Loc} {cells slots : Nat} {Q : State → Prop} {g : JFrame} (h1 : H = H') (h2 : locs = locs') (k : W p l e R s m args below meth c H' locs' cells slots Q g) : W p l e R s m args below meth c H locs cells slots Q g := by
  subst h1
  subst h2
  exact k
set_option maxHeartbeats 4000000 in
set_option maxRecDepth 100000 in
theorem c_digestedAs_N (l : Launch) {G : Gt} {ws : va_W} (sz : Nat)  : Met l yX2_digestedAs wsX2_digestedAs ({ frames := 1, cells := 0, slots := 0, locals := 27 } : Room) (Pw G [.null] ws sz) (va_Ql (fun (r : Int64) (u : va_W) => r = 0 ∧ u = ws) (Bw G ws sz) (va_A ws sz)) 0 0 (va_A ws sz) := by
  refine Met_pw (cc := cX2_digestedAs) (maxL := 2) (ret := (some .long)) (by decide) rfl (Nat.le_of_ble_eq_true rfl) ?_
  intro p e s m below meth c ls hsz S9 hr hlk hnm w hl
  subst hsz
  replace S9 : CallFix p m c cX2_digestedAs 2 s _ wsX2_digestedAs RX2 := S9
  have hx := S9.1
  have hb := S9.2.1
  have hown := S9.2.2.2.1
  have hts := S9.2.2.2.2
  replace hl : lv_has ls 2 [(0, .null)] := hl
  refine lv_aload_nN hx hb dX2_digestedAs_0 rfl (lv_at hl 0 rfl) ?_
  refine lv_ifnonnullN hx hb dX2_digestedAs_1 ?_
  refine lv_lconst (v := 0) hx hb dX2_digestedAs_4 (by decide) ?_
  exact ew_l S9 hr hlk w (⟨rfl, rfl⟩) dX2_digestedAs_5 (by decide) (by decide)

set_option maxHeartbeats 4000000 in
set_option maxRecDepth 100000 in
theorem c_digestedAs_0 (l : Launch) {G : Gt} {ws : va_W} (sz : Nat) {x sh li : Nat} {ad ar : Nat → Nat} {S : St} (hR : RpX G x sh li ad ar S ws) (hI : Inv S) {h : Nat} {o : Ob} (ho : s_o S h = some o) (hk : o_k o ≤ 3) : Met l yX2_digestedAs wsX2_digestedAs ({ frames := 1, cells := 0, slots := 0, locals := 27 } : Room) (Pw G [.ref (ad h)] ws sz) (va_Ql (fun (r : Int64) (u : va_W) => r = dgE S (some h) ∧ RpX G x sh li ad ar S u) (Bw G ws sz) (va_A ws sz)) 0 0 (va_A ws sz) := by
  refine Met_pw (cc := cX2_digestedAs) (maxL := 2) (ret := (some .long)) (by decide) rfl (Nat.le_of_ble_eq_true rfl) ?_
  intro p e s m below meth c ls hsz S9 hr hlk hnm w hl
  subst hsz
  replace S9 : CallFix p m c cX2_digestedAs 2 s _ wsX2_digestedAs RX2 := S9
  have hx := S9.1
  have hb := S9.2.1
  have hown := S9.2.2.2.1
  have hts := S9.2.2.2.2
  replace hl : lv_has ls 2 [(0, .ref (ad h))] := hl
  obtain ⟨dk, kd, q1, q2, q3, q4⟩ := hR.2.2.2.1 h o ho
  rw [o_num hk] at q1
  refine lv_aload_n hx hb dX2_digestedAs_0 rfl (lv_at hl 0 rfl) ?_
  refine lv_ifnonnull (tgt := 6) hx hb dX2_digestedAs_1 (by decide) ?_
  refine lv_aload_n hx hb dX2_digestedAs_6 rfl (lv_at hl 0 rfl) ?_
  refine r_inst S9 w q1 (by decide) 0 (by decide) (by decide +kernel) (v := 1) rfl dX2_digestedAs_7 ?_
  refine lv_if_eq (tgt := 23) hx hb dX2_digestedAs_10 (by decide) (fun c_10 => absurd c_10 (by decide)) (fun c_10 => ?_)
  refine lv_aload_n hx hb dX2_digestedAs_13 rfl (lv_at hl 0 rfl) ?_
  refine r_cast S9 w q1 (by decide) 0 (by decide) rfl (by decide +kernel) dX2_digestedAs_14 ?_
  refine lv_astore_n (lv' := [(1, .ref (ad h)), (0, .ref (ad h))]) hx hb dX2_digestedAs_17 rfl hl (by decide) rfl (fun ls hl => ?_)
  refine lv_aload_n hx hb dX2_digestedAs_18 rfl (lv_at hl 0 rfl) ?_
  refine kw_vl S9 w (c_digestOfNumbers l _ q1 (by have := (hI.ob ho).2; omega) (q3 hk) q2) q1 rfl (cwV 0 hts gX2_digestedAs_X1_digestOfNumbers rfl rfl rfl (by decide +kernel) ⟨Nat.le_of_ble_eq_true rfl, Nat.le_of_ble_eq_true rfl⟩) rfl hl.1 rfl (Nat.le_of_ble_eq_true rfl) dX2_digestedAs_19 ⟨Nat.le_of_ble_eq_true rfl, Nat.le_of_ble_eq_true rfl⟩ (fun v12 u12 H12 lc12 p12 w12 => ?_)
  exact ew_l S9 hr hlk w12 (by have hO : obj S (some h) = some o := ho; simp only [dgE, hO, hk, if_true]; exact ⟨p12.1, RpX.dig w.2.1 hR ho hk p12.2⟩) dX2_digestedAs_22 (by decide) (by decide)

set_option maxHeartbeats 4000000 in
set_option maxRecDepth 100000 in
theorem c_digestedAs_1 (l : Launch) {G : Gt} {ws : va_W} (sz : Nat) {x sh li : Nat} {ad ar : Nat → Nat} {S : St} (hR : RpX G x sh li ad ar S ws) (hI : Inv S) {h : Nat} {o : Ob} (ho : s_o S h = some o) (hk : 4 ≤ o_k o) (hm : o_k o ≤ 6) : Met l yX2_digestedAs wsX2_digestedAs ({ frames := 1, cells := 0, slots := 0, locals := 27 } : Room) (Pw G [.ref (ad h)] ws sz) (va_Ql (fun (r : Int64) (u : va_W) => r = dgE S (some h) ∧ RpX G x sh li ad ar S u) (Bw G ws sz) (va_A ws sz)) 0 0 (va_A ws sz) := by
  refine Met_pw (cc := cX2_digestedAs) (maxL := 2) (ret := (some .long)) (by decide) rfl (Nat.le_of_ble_eq_true rfl) ?_
  intro p e s m below meth c ls hsz S9 hr hlk hnm w hl
  subst hsz
  replace S9 : CallFix p m c cX2_digestedAs 2 s _ wsX2_digestedAs RX2 := S9
  have hx := S9.1
  have hb := S9.2.1
  have hown := S9.2.2.2.1
  have hts := S9.2.2.2.2
  replace hl : lv_has ls 2 [(0, .ref (ad h))] := hl
  obtain ⟨dk, kd, q1, q2, q3, q4⟩ := hR.2.2.2.1 h o ho
  rw [o_obj hk hm] at q1
  refine lv_aload_n hx hb dX2_digestedAs_0 rfl (lv_at hl 0 rfl) ?_
  refine lv_ifnonnull (tgt := 6) hx hb dX2_digestedAs_1 (by decide) ?_
  refine lv_aload_n hx hb dX2_digestedAs_6 rfl (lv_at hl 0 rfl) ?_
  refine r_inst S9 w q1 (by decide) 0 (by decide) (by decide +kernel) (v := 0) rfl dX2_digestedAs_7 ?_
  refine lv_if_eq (tgt := 23) hx hb dX2_digestedAs_10 (by decide) (fun c_10 => ?_) (fun c_10 => absurd c_10 (by decide))
  refine lv_aload_n hx hb dX2_digestedAs_23 rfl (lv_at hl 0 rfl) ?_
  refine k_snl S9 w (u_toldAs l _ hR hI (some h) (fun h2 e2 => by cases e2; exact ⟨o, ho⟩)) ⟨va_cnB 1 hts gX2_digestedAs_X5_toldAs_n44 rfl rfl rfl w.2.2.2.2.2.2.2.2 (hts (.initialized RX5) (by decide +kernel)) (by decide +kernel) ⟨Nat.le_of_ble_eq_true rfl, Nat.le_of_ble_eq_true rfl⟩, hts (.static yX5_toldAs) (by decide +kernel), trivial⟩ rfl hl.1 rfl (Nat.le_of_ble_eq_true rfl) dX2_digestedAs_24 ⟨Nat.le_of_ble_eq_true rfl, Nat.le_of_ble_eq_true rfl⟩ (fun v11 e11 => ?_)
  exact ew_l S9 hr hlk w (by have hO : obj S (some h) = some o := ho; rw [hO] at e11; simp only [dgE, hO, show ¬ o_k o ≤ 3 by omega, if_false]; exact ⟨e11, hR⟩) dX2_digestedAs_27 (by decide) (by decide)

set_option maxHeartbeats 4000000 in
set_option maxRecDepth 100000 in
theorem c_digestedAs_2 (l : Launch) {G : Gt} {ws : va_W} (sz : Nat) {x sh li : Nat} {ad ar : Nat → Nat} {S : St} (hR : RpX G x sh li ad ar S ws) (hI : Inv S) {h : Nat} {o : Ob} (ho : s_o S h = some o) (hk : 7 ≤ o_k o) : Met l yX2_digestedAs wsX2_digestedAs ({ frames := 1, cells := 0, slots := 0, locals := 27 } : Room) (Pw G [.ref (ad h)] ws sz) (va_Ql (fun (r : Int64) (u : va_W) => r = dgE S (some h) ∧ RpX G x sh li ad ar S u) (Bw G ws sz) (va_A ws sz)) 0 0 (va_A ws sz) := by
  refine Met_pw (cc := cX2_digestedAs) (maxL := 2) (ret := (some .long)) (by decide) rfl (Nat.le_of_ble_eq_true rfl) ?_
  intro p e s m below meth c ls hsz S9 hr hlk hnm w hl
  subst hsz
  replace S9 : CallFix p m c cX2_digestedAs 2 s _ wsX2_digestedAs RX2 := S9
  have hx := S9.1
  have hb := S9.2.1
  have hown := S9.2.2.2.1
  have hts := S9.2.2.2.2
  replace hl : lv_has ls 2 [(0, .ref (ad h))] := hl
  obtain ⟨dk, kd, q1, q2, q3, q4⟩ := hR.2.2.2.1 h o ho
  rw [o_thg hk] at q1
  refine lv_aload_n hx hb dX2_digestedAs_0 rfl (lv_at hl 0 rfl) ?_
  refine lv_ifnonnull (tgt := 6) hx hb dX2_digestedAs_1 (by decide) ?_
  refine lv_aload_n hx hb dX2_digestedAs_6 rfl (lv_at hl 0 rfl) ?_
  refine r_inst S9 w q1 (by decide) 0 (by decide) (by decide +kernel) (v := 0) rfl dX2_digestedAs_7 ?_
  refine lv_if_eq (tgt := 23) hx hb dX2_digestedAs_10 (by decide) (fun c_10 => ?_) (fun c_10 => absurd c_10 (by decide))
  refine lv_aload_n hx hb dX2_digestedAs_23 rfl (lv_at hl 0 rfl) ?_
  refine k_snl S9 w (u_toldAs l _ hR hI (some h) (fun h2 e2 => by cases e2; exact ⟨o, ho⟩)) ⟨va_cnB 1 hts gX2_digestedAs_X5_toldAs_n44 rfl rfl rfl w.2.2.2.2.2.2.2.2 (hts (.initialized RX5) (by decide +kernel)) (by decide +kernel) ⟨Nat.le_of_ble_eq_true rfl, Nat.le_of_ble_eq_true rfl⟩, hts (.static yX5_toldAs) (by decide +kernel), trivial⟩ rfl hl.1 rfl (Nat.le_of_ble_eq_true rfl) dX2_digestedAs_24 ⟨Nat.le_of_ble_eq_true rfl, Nat.le_of_ble_eq_true rfl⟩ (fun v11 e11 => ?_)
  exact ew_l S9 hr hlk w (by have hO : obj S (some h) = some o := ho; rw [hO] at e11; simp only [dgE, hO, show ¬ o_k o ≤ 3 by omega, if_false]; exact ⟨e11, hR⟩) dX2_digestedAs_27 (by decide) (by decide)

theorem u_digestedAs (l : Launch) {G : Gt} {ws : va_W} (sz : Nat) {x sh li : Nat} {ad ar : Nat → Nat} {S : St} (hR : RpX G x sh li ad ar S ws) (hI : Inv S) (r : Option Nat) (hv : okr S r) : Met l yX2_digestedAs wsX2_digestedAs ({ frames := 1, cells := 0, slots := 0, locals := 27 } : Room) (Pw G [va_rf (r.map ad)] ws sz) (va_Ql (fun (z : Int64) (u : va_W) => z = dgE S r ∧ RpX G x sh li ad ar S u) (Bw G ws sz) (va_A ws sz)) 0 0 (va_A ws sz) := by
  cases r with
  | none => exact (c_digestedAs_N l sz).mono (fun _ _ _ _ ⟨⟨z, u, g1, g2, g3⟩, g4⟩ => ⟨⟨z, u, g1, ⟨g2.1, by rw [g2.2]; exact hR⟩, g3⟩, g4⟩)
  | some h =>
    obtain ⟨o, ho⟩ := hv h rfl
    rcases (show o_k o ≤ 3 ∨ (4 ≤ o_k o ∧ o_k o ≤ 6) ∨ 7 ≤ o_k o by omega) with hk | ⟨hk, hm⟩ | hk
    · exact c_digestedAs_0 l sz hR hI ho hk
    · exact c_digestedAs_1 l sz hR hI ho hk hm
    · exact c_digestedAs_2 l sz hR hI ho hk

set_option maxHeartbeats 4000000 in
set_option maxRecDepth 100000 in
theorem c_digestOfObjects (l : Launch) {G : Gt} {ws : va_W} (sz : Nat) {x sh li : Nat} {ad ar : Nat → Nat} {S : St} (hR : RpX G x sh li ad ar S ws) (hI : Inv S) {h : Nat} {o : Ob} (ho : s_o S h = some o) (hk : 4 ≤ o_k o) (hm : o_k o ≤ 6) : Met l yX2_digestOfObjects wsX2_digestOfObjects ({ frames := 2, cells := 0, slots := 0, locals := 48 } : Room) (Pw G [.ref (ad h)] ws sz) (va_Ql (fun (r : Int64) (u : va_W) => r = dgO S (o_k o) (o_e o) (o_n o) ∧ RpX G x sh li ad ar S u) (Bw G ws sz) (va_A ws sz)) 0 0 (va_A ws sz) := by
  refine Met_pw (cc := cX2_digestOfObjects) (maxL := 7) (ret := (some .long)) (by decide) rfl (Nat.le_of_ble_eq_true rfl) ?_
  intro p e s m below meth c ls hsz S9 hr hlk hnm w hl
  subst hsz
  replace S9 : CallFix p m c cX2_digestOfObjects 7 s _ wsX2_digestOfObjects RX2 := S9
  have hx := S9.1
  have hb := S9.2.1
  have hown := S9.2.2.2.1
  have hts := S9.2.2.2.2
  replace hl : lv_has ls 7 [(0, .ref (ad h))] := hl
  obtain ⟨dk, kd, q1, q2, q3, q4⟩ := hR.2.2.2.1 h o ho
  rw [o_obj hk hm] at q1
  refine lv_aload_n hx hb dX2_digestOfObjects_0 rfl (lv_at hl 0 rfl) ?_
  refine r_get (ref := "SpanMover$ObjectRow") S9 w q1 rfl (by decide +kernel) 1 (by decide) (by decide +kernel) (Or.inr (by decide +kernel)) rfl dX2_digestOfObjects_1 ?_
  refine lv_iconst (v := 1) hx hb dX2_digestOfObjects_4 (by decide) ?_
  refine lv_iadd hx hb dX2_digestOfObjects_5 ?_
  refine lv_topi (fun v1 ev1 => ?_)
  obtain ⟨v2, ev2⟩ : ∃ z : Int64, Int32.toInt64 v1 = z := ⟨_, rfl⟩
  refine lv_i2l (v := v2) hx hb dX2_digestOfObjects_6 ev2 ?_
  refine lv_lstore_n (lv' := [(1, .long v2), (0, .ref (ad h))]) hx hb dX2_digestOfObjects_7 rfl hl (by decide) rfl (fun ls hl => ?_)
  refine lv_aload_n hx hb dX2_digestOfObjects_8 rfl (lv_at hl 1 rfl) ?_
  refine r_get (ref := "SpanMover$ObjectRow") S9 w q1 rfl (by decide +kernel) 2 (by decide) (by decide +kernel) (Or.inl rfl) rfl dX2_digestOfObjects_9 ?_
  refine lv_astore_n (lv' := [(3, .ref (ar h)), (1, .long v2), (0, .ref (ad h))]) hx hb dX2_digestOfObjects_12 rfl hl (by decide) rfl (fun ls hl => ?_)
  refine lv_aload_n hx hb dX2_digestOfObjects_13 rfl (lv_at hl 0 rfl) ?_
  refine r_alen S9 w (q4 hk hm) dX2_digestOfObjects_14 ?_
  refine lv_istore (lv' := [(4, .int (nI (o_n o))), (3, .ref (ar h)), (1, .long v2), (0, .ref (ad h))]) hx hb dX2_digestOfObjects_15 hl (by decide) rfl (fun ls hl => ?_)
  refine lv_iconst (v := 0) hx hb dX2_digestOfObjects_17 (by decide) ?_
  refine lv_istore (lv' := [(5, .int 0), (4, .int (nI (o_n o))), (3, .ref (ar h)), (1, .long v2), (0, .ref (ad h))]) hx hb dX2_digestOfObjects_18 hl (by decide) rfl (fun ls hl => ?_)
  obtain ⟨i, hi, hv, hd⟩ : ∃ i : Nat, i ≤ o_n o ∧ (0 : Int32) = nI i ∧ v2 = dgO S (o_k o) (o_e o) i := ⟨0, by omega, rfl, by rw [← ev2, ev1]; rfl⟩
  obtain ⟨v, hv0⟩ : ∃ v : Int32, v = 0 := ⟨_, rfl⟩
  obtain ⟨d, hd0⟩ : ∃ d : Int64, d = v2 := ⟨_, rfl⟩
  replace hl : lv_has ls 7 [(5, .int v), (4, .int (nI (o_n o))), (3, .ref (ar h)), (1, .long d), (0, .ref (ad h))] := by rw [hv0, hd0]; exact hl
  rw [← hv0] at hv
  rw [← hd0] at hd
  clear hv0 hd0 q1 q2 q3 q4
  obtain ⟨ws7, H7, lc7, w7, hR7, eH, eL⟩ : ∃ (ws7 : va_W) (H7 : Heap) (lc7 : List Loc), Wd G (va_A ws s.heap.size) s ws7 H7 lc7 ∧ RpX G x sh li ad ar S ws7 ∧ s.heap = H7 ∧ [] = lc7 := ⟨ws, _, _, w, hR, rfl, rfl⟩
  refine W_at eH eL ?_
  clear eH eL
  obtain ⟨t, ht⟩ : ∃ t, o_n o - i < t := ⟨_, Nat.lt_succ_self _⟩
  have hn : o_n o < 2 ^ 31 := by have := (hI.ob ho).2; omega
  induction t generalizing i v d ls ws7 H7 lc7 with
  | zero => exact absurd ht (Nat.not_lt_zero _)
  | succ t ih =>
    obtain ⟨dk, kd, q1, q2, q3, q4⟩ := hR7.2.2.2.1 h o ho
    rw [o_obj hk hm] at q1
    refine lv_iload hx hb dX2_digestOfObjects_20 (lv_at hl 0 rfl) ?_
    refine lv_iload hx hb dX2_digestOfObjects_22 (lv_at hl 1 rfl) ?_
    refine lv_icmp_ge (tgt := 51) hx hb dX2_digestOfObjects_24 (by decide) (fun c_24 => ?_) (fun c_24 => ?_)
    · refine lv_lload_n hx hb dX2_digestOfObjects_51 rfl (lv_at hl 3 rfl) ?_
      exact ew_l S9 hr hlk w7 ⟨by have h4 := ge_nI hv hi hn c_24; subst h4; exact hd, hR7⟩ dX2_digestOfObjects_52 (by decide) (by decide)
    · refine lv_aload_n hx hb dX2_digestOfObjects_27 rfl (lv_at hl 2 rfl) ?_
      refine lv_iload hx hb dX2_digestOfObjects_28 (lv_at hl 0 rfl) ?_
      refine r_aald S9 w7 (q4 hk hm) (in_nI hv hi hn c_24) dX2_digestOfObjects_30 ?_
      refine lq_astore (lv' := [(6, va_rf ((fun i => (o_e o i).map ad) v.toNatClampNeg)), (5, .int v), (4, .int (nI (o_n o))), (3, .ref (ar h)), (1, .long d), (0, .ref (ad h))]) hx hb dX2_digestOfObjects_31 hl (by decide) rfl (fun ls hl => ?_)
      refine lv_ldc2 (v := 31) hx hb hown (hts (.constantLong RX2 32 (31)) (by decide +kernel)) dX2_digestOfObjects_33 ?_
      refine lv_lload_n hx hb dX2_digestOfObjects_36 rfl (lv_at hl 4 rfl) ?_
      refine lv_lmul hx hb dX2_digestOfObjects_37 ?_
      refine lv_topl (fun v3 ev3 => ?_)
      refine lq_aload hx hb dX2_digestOfObjects_38 (lv_at hl 0 rfl) ?_
      refine kw_sl S9 w7 (u_digestedAs l _ hR7 hI (o_e o v.toNatClampNeg) (hI.el ho hk hm _)) (va_cwS 1 hts gX2_digestOfObjects_X2_digestedAs rfl rfl rfl (by decide +kernel) ⟨Nat.le_of_ble_eq_true rfl, Nat.le_of_ble_eq_true rfl⟩) rfl hl.1 rfl (Nat.le_of_ble_eq_true rfl) dX2_digestOfObjects_40 ⟨Nat.le_of_ble_eq_true rfl, Nat.le_of_ble_eq_true rfl⟩ (fun v12 u12 H12 lc12 p12 w12 => ?_)
      refine lv_ladd hx hb dX2_digestOfObjects_43 ?_
      refine lv_topl (fun v4 ev4 => ?_)
      refine lv_lstore_n (lv' := [(1, .long v4), (6, va_rf ((fun i => (o_e o i).map ad) v.toNatClampNeg)), (5, .int v), (4, .int (nI (o_n o))), (3, .ref (ar h)), (0, .ref (ad h))]) hx hb dX2_digestOfObjects_44 rfl hl (by decide) rfl (fun ls hl => ?_)
      obtain ⟨v5, ev5⟩ : ∃ z : Int32, z = v + 1 := ⟨_, rfl⟩
      refine lv_iinc (v := v5) (lv' := [(5, .int v5), (1, .long v4), (6, va_rf ((fun i => (o_e o i).map ad) v.toNatClampNeg)), (4, .int (nI (o_n o))), (3, .ref (ar h)), (0, .ref (ad h))]) hx hb dX2_digestOfObjects_45 hl (k := 2) rfl (by rw [ev5]; rfl) (by decide) rfl (fun ls hl => ?_)
      refine lv_goto (tgt := 20) hx hb dX2_digestOfObjects_48 (by decide) ?_
      have hi4 := nge_nI hv hi hn c_24
      exact ih (ls := ls) (i := i + 1) (v := v5) (d := v4) (ws7 := u12) (H7 := H12) (lc7 := lc12) (hi := by omega) (hv := by rw [ev5, hv]; exact nI_1 i) (hd := by rw [ev4, ev3, hd, p12.1, cl_nI hv (by omega)]; rfl) (hl := lv_sub hl [0, 3, 4, 1, 5] rfl) (w7 := w12) (hR7 := p12.2) (ht := by omega)

set_option maxHeartbeats 4000000 in
set_option maxRecDepth 100000 in
theorem c_digest (l : Launch) {G : Gt} {ws : va_W} (sz : Nat) {x sh li : Nat} {ad ar : Nat → Nat} {S : St} (hR : RpX G x sh li ad ar S ws) (hI : Inv S) (pl : Int32) : Met l yX5_digest wsX5_digest ({ frames := 3, cells := 0, slots := 0, locals := 74 } : Room) (Pw G [.ref x, .int pl] ws sz) (va_Ql (fun (r : Int64) (u : va_W) => r = sp_digest S pl ∧ ∃ ad2 ar2, RpX G x sh li ad2 ar2 S u) (Bw G ws sz) (va_A ws sz)) 0 0 (va_A ws sz) := by
  refine Met_pw (cc := cX5_digest) (maxL := 4) (ret := (some .long)) (by decide) rfl (Nat.le_of_ble_eq_true rfl) ?_
  intro p e s m below meth c ls hsz S9 hr hlk hnm w hl
  subst hsz
  replace S9 : CallFix p m c cX5_digest 4 s _ wsX5_digest RX5 := S9
  have hx := S9.1
  have hb := S9.2.1
  have hown := S9.2.2.2.1
  have hts := S9.2.2.2.2
  replace hl : lv_has ls 4 [(0, .ref x), (1, .int pl)] := hl
  refine lv_aload_n hx hb dX5_digest_0 rfl (lv_at hl 0 rfl) ?_
  refine lv_iload_n hx hb dX5_digest_1 rfl (lv_at hl 1 rfl) ?_
  refine kx_itemAt S9 w hR hI gX5_digest_X5_itemAt hl.1 (Nat.le_of_ble_eq_true rfl) dX5_digest_2 ⟨Nat.le_of_ble_eq_true rfl, Nat.le_of_ble_eq_true rfl⟩ ⟨Nat.le_of_ble_eq_true rfl, Nat.le_of_ble_eq_true rfl⟩ (fun i_2 => ?_) (fun h o i_2 ho => ?_)
  · refine lv_astore_nN (lv' := [(2, .null), (0, .ref x), (1, .int pl)]) hx hb dX5_digest_5 rfl hl (by decide) rfl (fun ls hl => ?_)
    refine lv_aload_nN hx hb dX5_digest_6 rfl (lv_at hl 0 rfl) ?_
    refine lv_instN hx hb dX5_digest_7 ?_
    refine lv_if_eq (tgt := 23) hx hb dX5_digest_10 (by decide) (fun c_10 => ?_) (fun c_10 => absurd c_10 (by decide))
    refine lv_aload_nN hx hb dX5_digest_23 rfl (lv_at hl 0 rfl) ?_
    refine lv_instN hx hb dX5_digest_24 ?_
    refine lv_if_eq (tgt := 40) hx hb dX5_digest_27 (by decide) (fun c_27 => ?_) (fun c_27 => absurd c_27 (by decide))
    refine lv_aload_nN hx hb dX5_digest_40 rfl (lv_at hl 0 rfl) ?_
    refine lv_instN hx hb dX5_digest_41 ?_
    refine lv_if_eq (tgt := 70) hx hb dX5_digest_44 (by decide) (fun c_44 => ?_) (fun c_44 => absurd c_44 (by decide))
    refine lv_lconst (v := 0) hx hb dX5_digest_70 (by decide) ?_
    exact ew_l S9 hr hlk w (⟨by simp [sp_digest, obj_none i_2], ad, ar, hR⟩) dX5_digest_71 (by decide) (by decide)
  · obtain ⟨dk, kd, q1, q2, q3, q4⟩ := hR.2.2.2.1 h o ho
    rcases (show o_k o ≤ 3 ∨ (4 ≤ o_k o ∧ o_k o ≤ 6) ∨ 7 ≤ o_k o by omega) with hk | ⟨hk, hm⟩ | hk
    · rw [o_num hk] at q1
      refine lv_astore_n (lv' := [(2, .ref (ad h)), (0, .ref x), (1, .int pl)]) hx hb dX5_digest_5 rfl hl (by decide) rfl (fun ls hl => ?_)
      refine lv_aload_n hx hb dX5_digest_6 rfl (lv_at hl 0 rfl) ?_
      refine r_inst S9 w q1 (by decide) 0 (by decide) (by decide +kernel) (v := 1) rfl dX5_digest_7 ?_
      refine lv_if_eq (tgt := 23) hx hb dX5_digest_10 (by decide) (fun c_10 => absurd c_10 (by decide)) (fun c_10 => ?_)
      refine lv_aload_n hx hb dX5_digest_13 rfl (lv_at hl 0 rfl) ?_
      refine r_cast S9 w q1 (by decide) 0 (by decide) rfl (by decide +kernel) dX5_digest_14 ?_
      refine lv_astore_n (lv' := [(3, .ref (ad h)), (2, .ref (ad h)), (0, .ref x), (1, .int pl)]) hx hb dX5_digest_17 rfl hl (by decide) rfl (fun ls hl => ?_)
      refine lv_aload_n hx hb dX5_digest_18 rfl (lv_at hl 0 rfl) ?_
      refine kw_vl S9 w (c_digestOfNumbers l _ q1 (by have := (hI.ob ho).2; omega) (q3 hk) q2) q1 rfl (cwV 0 hts gX5_digest_X1_digestOfNumbers rfl rfl rfl (by decide +kernel) ⟨Nat.le_of_ble_eq_true rfl, Nat.le_of_ble_eq_true rfl⟩) rfl hl.1 rfl (Nat.le_of_ble_eq_true rfl) dX5_digest_19 ⟨Nat.le_of_ble_eq_true rfl, Nat.le_of_ble_eq_true rfl⟩ (fun v12 u12 H12 lc12 p12 w12 => ?_)
      exact ew_l S9 hr hlk w12 (⟨by simp only [sp_digest, obj_some i_2 ho, hk, if_true]; exact p12.1, ad, ar, RpX.dig w.2.1 hR ho hk p12.2⟩) dX5_digest_22 (by decide) (by decide)
    · rw [o_obj hk hm] at q1
      refine lv_astore_n (lv' := [(2, .ref (ad h)), (0, .ref x), (1, .int pl)]) hx hb dX5_digest_5 rfl hl (by decide) rfl (fun ls hl => ?_)
      refine lv_aload_n hx hb dX5_digest_6 rfl (lv_at hl 0 rfl) ?_
      refine r_inst S9 w q1 (by decide) 0 (by decide) (by decide +kernel) (v := 0) rfl dX5_digest_7 ?_
      refine lv_if_eq (tgt := 23) hx hb dX5_digest_10 (by decide) (fun c_10 => ?_) (fun c_10 => absurd c_10 (by decide))
      refine lv_aload_n hx hb dX5_digest_23 rfl (lv_at hl 0 rfl) ?_
      refine r_inst S9 w q1 (by decide) 1 (by decide) (by decide +kernel) (v := 1) rfl dX5_digest_24 ?_
      refine lv_if_eq (tgt := 40) hx hb dX5_digest_27 (by decide) (fun c_27 => absurd c_27 (by decide)) (fun c_27 => ?_)
      refine lv_aload_n hx hb dX5_digest_30 rfl (lv_at hl 0 rfl) ?_
      refine r_cast S9 w q1 (by decide) 1 (by decide) rfl (by decide +kernel) dX5_digest_31 ?_
      refine lv_astore_n (lv' := [(3, .ref (ad h)), (2, .ref (ad h)), (0, .ref x), (1, .int pl)]) hx hb dX5_digest_34 rfl hl (by decide) rfl (fun ls hl => ?_)
      refine lv_aload_n hx hb dX5_digest_35 rfl (lv_at hl 0 rfl) ?_
      refine kw_vl S9 w (c_digestOfObjects l _ hR hI ho hk hm) q1 rfl (cwV 0 hts gX5_digest_X2_digestOfObjects rfl rfl rfl (by decide +kernel) ⟨Nat.le_of_ble_eq_true rfl, Nat.le_of_ble_eq_true rfl⟩) rfl hl.1 rfl (Nat.le_of_ble_eq_true rfl) dX5_digest_36 ⟨Nat.le_of_ble_eq_true rfl, Nat.le_of_ble_eq_true rfl⟩ (fun v12 u12 H12 lc12 p12 w12 => ?_)
      exact ew_l S9 hr hlk w12 (⟨by simp only [sp_digest, obj_some i_2 ho, show ¬ o_k o ≤ 3 by omega, hm, if_true, if_false]; exact p12.1, ad, ar, p12.2⟩) dX5_digest_39 (by decide) (by decide)
    · rw [o_thg hk] at q1
      refine lv_astore_n (lv' := [(2, .ref (ad h)), (0, .ref x), (1, .int pl)]) hx hb dX5_digest_5 rfl hl (by decide) rfl (fun ls hl => ?_)
      refine lv_aload_n hx hb dX5_digest_6 rfl (lv_at hl 0 rfl) ?_
      refine r_inst S9 w q1 (by decide) 0 (by decide) (by decide +kernel) (v := 0) rfl dX5_digest_7 ?_
      refine lv_if_eq (tgt := 23) hx hb dX5_digest_10 (by decide) (fun c_10 => ?_) (fun c_10 => absurd c_10 (by decide))
      refine lv_aload_n hx hb dX5_digest_23 rfl (lv_at hl 0 rfl) ?_
      refine r_inst S9 w q1 (by decide) 1 (by decide) (by decide +kernel) (v := 0) rfl dX5_digest_24 ?_
      refine lv_if_eq (tgt := 40) hx hb dX5_digest_27 (by decide) (fun c_27 => ?_) (fun c_27 => absurd c_27 (by decide))
      refine lv_aload_n hx hb dX5_digest_40 rfl (lv_at hl 0 rfl) ?_
      refine r_inst S9 w q1 (by decide) 2 (by decide) (by decide +kernel) (v := 1) rfl dX5_digest_41 ?_
      refine lv_if_eq (tgt := 70) hx hb dX5_digest_44 (by decide) (fun c_44 => absurd c_44 (by decide)) (fun c_44 => ?_)
      refine lv_aload_n hx hb dX5_digest_47 rfl (lv_at hl 0 rfl) ?_
      refine r_cast S9 w q1 (by decide) 2 (by decide) rfl (by decide +kernel) dX5_digest_48 ?_
      refine lv_astore_n (lv' := [(3, .ref (ad h)), (2, .ref (ad h)), (0, .ref x), (1, .int pl)]) hx hb dX5_digest_51 rfl hl (by decide) rfl (fun ls hl => ?_)
      refine lv_ldc2 (v := 31) hx hb hown (hts (.constantLong RX5 122 (31)) (by decide +kernel)) dX5_digest_52 ?_
      refine lv_aload_n hx hb dX5_digest_55 rfl (lv_at hl 0 rfl) ?_
      refine r_get (ref := "SpanMover$Thing") S9 w q1 rfl (by decide +kernel) 0 (by decide) (by decide +kernel) (Or.inr (by decide +kernel)) rfl dX5_digest_56 ?_
      refine lv_iconst (v := 1) hx hb dX5_digest_59 (by decide) ?_
      refine lv_iadd hx hb dX5_digest_60 ?_
      refine lv_topi (fun v1 ev1 => ?_)
      obtain ⟨v2, ev2⟩ : ∃ z : Int64, Int32.toInt64 v1 = z := ⟨_, rfl⟩
      refine lv_i2l (v := v2) hx hb dX5_digest_61 ev2 ?_
      refine lv_lmul hx hb dX5_digest_62 ?_
      refine lv_topl (fun v3 ev3 => ?_)
      refine lv_aload_n hx hb dX5_digest_63 rfl (lv_at hl 0 rfl) ?_
      refine r_get (ref := "SpanMover$Thing") S9 w q1 rfl (by decide +kernel) 1 (by decide) (by decide +kernel) (Or.inl rfl) rfl dX5_digest_64 ?_
      obtain ⟨v4, ev4⟩ : ∃ z : Int64, Int32.toInt64 (o_v o) = z := ⟨_, rfl⟩
      refine lv_i2l (v := v4) hx hb dX5_digest_67 ev4 ?_
      refine lv_ladd hx hb dX5_digest_68 ?_
      refine lv_topl (fun v5 ev5 => ?_)
      exact ew_l S9 hr hlk w (⟨by simp only [sp_digest, obj_some i_2 ho, show ¬ o_k o ≤ 3 by omega, show ¬ o_k o ≤ 6 by omega, if_false]; subst_vars; rfl, ad, ar, hR⟩) dX5_digest_69 (by decide) (by decide)

set_option maxHeartbeats 4000000 in
set_option maxRecDepth 100000 in
theorem c_plan (l : Launch) {G : Gt} {ws : va_W} (sz : Nat) {x sh li : Nat} {ad ar : Nat → Nat} {S : St} (hR : RpX G x sh li ad ar S ws) (hI : Inv S) (a i b j n : Int32) : Met l yX5_plan wsX5_plan ({ frames := 0, cells := 0, slots := 0, locals := 0 } : Room) (Pw G [.ref x, .int a, .int i, .int b, .int j, .int n] ws sz) (va_Qi (fun (r : Int32) (u : va_W) => r = (sp_plan S a i b j n).1 ∧ ∃ ad2 ar2, RpX G x sh li ad2 ar2 (sp_plan S a i b j n).2 u) (Bw G ws sz) (va_A ws sz)) 0 0 (va_A ws sz) := by
  refine Met_pw (cc := cX5_plan) (maxL := 7) (ret := (some .int)) (by decide) rfl (Nat.le_of_ble_eq_true rfl) ?_
  intro p e s m below meth c ls hsz S9 hr hlk hnm w hl
  subst hsz
  replace S9 : CallFix p m c cX5_plan 7 s _ wsX5_plan RX5 := S9
  have hx := S9.1
  have hb := S9.2.1
  have hown := S9.2.2.2.1
  have hts := S9.2.2.2.2
  replace hl : lv_has ls 7 [(0, .ref x), (1, .int a), (2, .int i), (3, .int b), (4, .int j), (5, .int n)] := hl
  obtain ⟨k, hk, hk0⟩ := hI.2.2.1
  refine lv_aload_n hx hb dX5_plan_0 rfl (lv_at hl 0 rfl) ?_
  refine r_get (ref := "SpanMover") S9 w hR.1 rfl (by decide +kernel) 2 (by decide) (by decide +kernel) (Or.inl rfl) rfl dX5_plan_1 ?_
  refine lv_bipush (v := 64) hx hb dX5_plan_4 (by decide) ?_
  refine lv_icmp_lt (tgt := 11) hx hb dX5_plan_6 (by decide) (fun c_6 => ?_) (fun c_6 => ?_)
  · refine lv_aload_n hx hb dX5_plan_11 rfl (lv_at hl 0 rfl) ?_
    refine r_get (ref := "SpanMover") S9 w hR.1 rfl (by decide +kernel) 2 (by decide) (by decide +kernel) (Or.inl rfl) rfl dX5_plan_12 ?_
    refine lv_iconst (v := 5) hx hb dX5_plan_15 (by decide) ?_
    refine lv_imul hx hb dX5_plan_16 ?_
    refine lv_topi (fun v1 ev1 => ?_)
    refine lv_istore (lv' := [(6, .int v1), (0, .ref x), (1, .int a), (2, .int i), (3, .int b), (4, .int j), (5, .int n)]) hx hb dX5_plan_17 hl (by decide) rfl (fun ls hl => ?_)
    refine lv_aload_n hx hb dX5_plan_19 rfl (lv_at hl 1 rfl) ?_
    refine r_get (ref := "SpanMover") S9 w hR.1 rfl (by decide +kernel) 1 (by decide) (by decide +kernel) (Or.inl rfl) rfl dX5_plan_20 ?_
    refine lv_iload hx hb dX5_plan_23 (lv_at hl 0 rfl) ?_
    refine lv_iload_n hx hb dX5_plan_25 rfl (lv_at hl 2 rfl) ?_
    have hk4 : k < 64 := by rw [hk0] at c_6; exact (nI_ltI (b := 64) (by omega) (by decide)).mp c_6
    have x0 : v1 = nI (k * 5) := by rw [ev1, hk0]; exact pk_mul k 5
    refine r_iast S9 w hR.2.2.1 (by rw [x0]; exact vp_in_nI (by omega) (by decide)) dX5_plan_26 (fun wst0 Ht0 lct0 ut0 wt0 => ?_)
    have hRt0 := RpX.lf (f := upd (s_l S) (k * 5) a) w.2.1 hR ut0 (by rw [cl_nI x0 (by omega)] <;> rfl)
    replace hRt0 : RpX G x sh li ad ar (s_u S, s_o S, s_s S, upd (s_l S) (k * 5) a, s_c S) wst0 := hRt0
    have hxt0 : hp wst0 x (.inr (3, [.ref sh, .ref li, .int (s_c S 0), .int (s_c S 1), .int (s_c S 2), .int (s_c S 3), .int (s_c S 4), .int (s_c S 5), .int (s_c S 6)])) := hRt0.1
    refine lv_aload_n hx hb dX5_plan_27 rfl (lv_at hl 1 rfl) ?_
    refine r_get (ref := "SpanMover") S9 wt0 hxt0 rfl (by decide +kernel) 1 (by decide) (by decide +kernel) (Or.inl rfl) rfl dX5_plan_28 ?_
    refine lv_iload hx hb dX5_plan_31 (lv_at hl 0 rfl) ?_
    refine lv_iconst (v := 1) hx hb dX5_plan_33 (by decide) ?_
    refine lv_iadd hx hb dX5_plan_34 ?_
    refine lv_topi (fun v2 ev2 => ?_)
    refine lv_iload_n hx hb dX5_plan_35 rfl (lv_at hl 3 rfl) ?_
    have x1 : v2 = nI (k * 5 + 1) := by rw [ev2, x0]; exact nI_add (k * 5) 1
    refine r_iast S9 wt0 hRt0.2.2.1 (by rw [x1]; exact vp_in_nI (by omega) (by decide)) dX5_plan_36 (fun wst1 Ht1 lct1 ut1 wt1 => ?_)
    have hRt1 := RpX.lf (f := upd (upd (s_l S) (k * 5) a) (k * 5 + 1) i) wt0.2.1 hRt0 ut1 (by rw [cl_nI x1 (by omega)] <;> rfl)
    replace hRt1 : RpX G x sh li ad ar (s_u S, s_o S, s_s S, upd (upd (s_l S) (k * 5) a) (k * 5 + 1) i, s_c S) wst1 := hRt1
    have hxt1 : hp wst1 x (.inr (3, [.ref sh, .ref li, .int (s_c S 0), .int (s_c S 1), .int (s_c S 2), .int (s_c S 3), .int (s_c S 4), .int (s_c S 5), .int (s_c S 6)])) := hRt1.1
    refine lv_aload_n hx hb dX5_plan_37 rfl (lv_at hl 1 rfl) ?_
    refine r_get (ref := "SpanMover") S9 wt1 hxt1 rfl (by decide +kernel) 1 (by decide) (by decide +kernel) (Or.inl rfl) rfl dX5_plan_38 ?_
    refine lv_iload hx hb dX5_plan_41 (lv_at hl 0 rfl) ?_
    refine lv_iconst (v := 2) hx hb dX5_plan_43 (by decide) ?_
    refine lv_iadd hx hb dX5_plan_44 ?_
    refine lv_topi (fun v3 ev3 => ?_)
    refine lv_iload_n hx hb dX5_plan_45 rfl (lv_at hl 4 rfl) ?_
    have x2 : v3 = nI (k * 5 + 2) := by rw [ev3, x0]; exact nI_add (k * 5) 2
    refine r_iast S9 wt1 hRt1.2.2.1 (by rw [x2]; exact vp_in_nI (by omega) (by decide)) dX5_plan_46 (fun wst2 Ht2 lct2 ut2 wt2 => ?_)
    have hRt2 := RpX.lf (f := upd (upd (upd (s_l S) (k * 5) a) (k * 5 + 1) i) (k * 5 + 2) b) wt1.2.1 hRt1 ut2 (by rw [cl_nI x2 (by omega)] <;> rfl)
    replace hRt2 : RpX G x sh li ad ar (s_u S, s_o S, s_s S, upd (upd (upd (s_l S) (k * 5) a) (k * 5 + 1) i) (k * 5 + 2) b, s_c S) wst2 := hRt2
    have hxt2 : hp wst2 x (.inr (3, [.ref sh, .ref li, .int (s_c S 0), .int (s_c S 1), .int (s_c S 2), .int (s_c S 3), .int (s_c S 4), .int (s_c S 5), .int (s_c S 6)])) := hRt2.1
    refine lv_aload_n hx hb dX5_plan_47 rfl (lv_at hl 1 rfl) ?_
    refine r_get (ref := "SpanMover") S9 wt2 hxt2 rfl (by decide +kernel) 1 (by decide) (by decide +kernel) (Or.inl rfl) rfl dX5_plan_48 ?_
    refine lv_iload hx hb dX5_plan_51 (lv_at hl 0 rfl) ?_
    refine lv_iconst (v := 3) hx hb dX5_plan_53 (by decide) ?_
    refine lv_iadd hx hb dX5_plan_54 ?_
    refine lv_topi (fun v4 ev4 => ?_)
    refine lv_iload hx hb dX5_plan_55 (lv_at hl 5 rfl) ?_
    have x3 : v4 = nI (k * 5 + 3) := by rw [ev4, x0]; exact nI_add (k * 5) 3
    refine r_iast S9 wt2 hRt2.2.2.1 (by rw [x3]; exact vp_in_nI (by omega) (by decide)) dX5_plan_57 (fun wst3 Ht3 lct3 ut3 wt3 => ?_)
    have hRt3 := RpX.lf (f := upd (upd (upd (upd (s_l S) (k * 5) a) (k * 5 + 1) i) (k * 5 + 2) b) (k * 5 + 3) j) wt2.2.1 hRt2 ut3 (by rw [cl_nI x3 (by omega)] <;> rfl)
    replace hRt3 : RpX G x sh li ad ar (s_u S, s_o S, s_s S, upd (upd (upd (upd (s_l S) (k * 5) a) (k * 5 + 1) i) (k * 5 + 2) b) (k * 5 + 3) j, s_c S) wst3 := hRt3
    have hxt3 : hp wst3 x (.inr (3, [.ref sh, .ref li, .int (s_c S 0), .int (s_c S 1), .int (s_c S 2), .int (s_c S 3), .int (s_c S 4), .int (s_c S 5), .int (s_c S 6)])) := hRt3.1
    refine lv_aload_n hx hb dX5_plan_58 rfl (lv_at hl 1 rfl) ?_
    refine r_get (ref := "SpanMover") S9 wt3 hxt3 rfl (by decide +kernel) 1 (by decide) (by decide +kernel) (Or.inl rfl) rfl dX5_plan_59 ?_
    refine lv_iload hx hb dX5_plan_62 (lv_at hl 0 rfl) ?_
    refine lv_iconst (v := 4) hx hb dX5_plan_64 (by decide) ?_
    refine lv_iadd hx hb dX5_plan_65 ?_
    refine lv_topi (fun v5 ev5 => ?_)
    refine lv_iload hx hb dX5_plan_66 (lv_at hl 6 rfl) ?_
    have x4 : v5 = nI (k * 5 + 4) := by rw [ev5, x0]; exact nI_add (k * 5) 4
    refine r_iast S9 wt3 hRt3.2.2.1 (by rw [x4]; exact vp_in_nI (by omega) (by decide)) dX5_plan_68 (fun wst4 Ht4 lct4 ut4 wt4 => ?_)
    have hRt4 := RpX.lf (f := upd (upd (upd (upd (upd (s_l S) (k * 5) a) (k * 5 + 1) i) (k * 5 + 2) b) (k * 5 + 3) j) (k * 5 + 4) n) wt3.2.1 hRt3 ut4 (by rw [cl_nI x4 (by omega)] <;> rfl)
    replace hRt4 : RpX G x sh li ad ar (s_u S, s_o S, s_s S, upd (upd (upd (upd (upd (s_l S) (k * 5) a) (k * 5 + 1) i) (k * 5 + 2) b) (k * 5 + 3) j) (k * 5 + 4) n, s_c S) wst4 := hRt4
    have hxt4 : hp wst4 x (.inr (3, [.ref sh, .ref li, .int (s_c S 0), .int (s_c S 1), .int (s_c S 2), .int (s_c S 3), .int (s_c S 4), .int (s_c S 5), .int (s_c S 6)])) := hRt4.1
    refine lv_aload_n hx hb dX5_plan_69 rfl (lv_at hl 1 rfl) ?_
    refine lv_dup hx hb dX5_plan_70 rfl ?_
    refine r_get (ref := "SpanMover") S9 wt4 hxt4 rfl (by decide +kernel) 2 (by decide) (by decide +kernel) (Or.inl rfl) rfl dX5_plan_71 ?_
    refine lv_iconst (v := 1) hx hb dX5_plan_74 (by decide) ?_
    refine lv_iadd hx hb dX5_plan_75 ?_
    refine lv_topi (fun v6 ev6 => ?_)
    refine r_put (ref := "SpanMover") S9 wt4 hRt4.1 rfl (by decide +kernel) tyX5_ok nmX5 2 (by decide) (by decide +kernel) (Or.inl rfl) rfl rfl rfl (Nat.le_of_ble_eq_true rfl) dX5_plan_76 (fun ws8 H8 lc8 u8 w8 => ?_)
    have hR8 := RpX.sc wt4.2.1 hRt4 u8 (oX_set sh li (s_c S) 0 (by decide) v6)
    replace hR8 : RpX G x sh li ad ar (s_u S, s_o S, s_s S, upd (upd (upd (upd (upd (s_l S) (k * 5) a) (k * 5 + 1) i) (k * 5 + 2) b) (k * 5 + 3) j) (k * 5 + 4) n, upd (s_c S) 0 v6) ws8 := hR8
    have hx8 : hp ws8 x (.inr (3, [.ref sh, .ref li, .int v6, .int (s_c S 1), .int (s_c S 2), .int (s_c S 3), .int (s_c S 4), .int (s_c S 5), .int (s_c S 6)])) := hR8.1
    refine lv_aload_n hx hb dX5_plan_79 rfl (lv_at hl 1 rfl) ?_
    refine r_get (ref := "SpanMover") S9 w8 hx8 rfl (by decide +kernel) 2 (by decide) (by decide +kernel) (Or.inl rfl) rfl dX5_plan_80 ?_
    exact ew_i S9 hr hlk w8 (by have hc : (s_c S 0).toNatClampNeg = k := cl_nI hk0 (by omega); have hle : ¬ (64 : Int32) ≤ s_c S 0 := (by rw [ii_le]; rw [ii_lt] at c_6; omega); rw [show sp_plan S a i b j n = (v6, _) from by unfold sp_plan; rw [if_neg hle, hc, ev6]]; exact ⟨rfl, ad, ar, by rw [← ev6]; exact hR8⟩) dX5_plan_83 (by decide) (by decide)
  · refine lv_iconst (v := (-1)) hx hb dX5_plan_9 (by decide) ?_
    exact ew_i S9 hr hlk w (by have hle : (64 : Int32) ≤ s_c S 0 := (by rw [ii_le]; rw [ii_lt] at c_6; omega); rw [show sp_plan S a i b j n = (-1, S) from by unfold sp_plan; rw [if_pos hle]]; exact ⟨rfl, ad, ar, hR⟩) dX5_plan_10 (by decide) (by decide)
end
section
/-! moves: what is needed of the numbers -/
theorem fitN_le {S : St} {k : Nat} {e : Nat → Option Nat} : ∀ {n i : Nat}, fitN S k e n i ≤ n
  | 0, i => Nat.le_refl _
  | n + 1, i => by
    unfold fitN
    split
    · have := fitN_le (S := S) (k := k) (e := e) (n := n) (i := i + 1)
      omega
    · omega
theorem fitN_lt {S : St} {k : Nat} {e : Nat → Option Nat} : ∀ {n i t : Nat}, t < fitN S k e n i → fitE S k (e (i + t)) = true
  | 0, i, t, h => by simp [fitN] at h
  | n + 1, i, t, h => by
    unfold fitN at h
    split at h
    · cases t with
      | zero => assumption
      | succ t =>
        have := fitN_lt (S := S) (k := k) (e := e) (n := n) (i := i + 1) (t := t) (by omega)
        rw [show i + (t + 1) = i + 1 + t by omega]
        exact this
    · omega
theorem fitN_step {S : St} {k : Nat} {e : Nat → Option Nat} {n i t : Nat} (ht : t < n) (h : fitE S k (e (i + t)) = true) : t + fitN S k e (n - t) (i + t) = (t + 1) + fitN S k e (n - (t + 1)) (i + (t + 1)) := by
  obtain ⟨m, hm⟩ : ∃ m, n - t = m + 1 := ⟨n - t - 1, by omega⟩
  have hm' : n - (t + 1) = m := by omega
  rw [hm, hm']
  have e1 : fitN S k e (m + 1) (i + t) = fitN S k e m (i + t + 1) + 1 := by
    rw [fitN]
    simp [h]
  rw [e1, show i + (t + 1) = i + t + 1 by omega]
  omega
theorem fitN_stop {S : St} {k : Nat} {e : Nat → Option Nat} {n i t : Nat} (ht : t < n) (h : fitE S k (e (i + t)) = false) : t + fitN S k e (n - t) (i + t) = t := by
  obtain ⟨m, hm⟩ : ∃ m, n - t = m + 1 := ⟨n - t - 1, by omega⟩
  rw [hm, fitN]
  simp [h]
/-- the part of a move behind its first three reasons -/
def mvR (S : St) (h' : Nat) (o o' : Ob) (i j n : Int32) : Int32 × Int32 × (Nat → Option Ob) :=
  if ¬ inS (o_n o) i n then (4, 0, s_o S) else if ¬ inS (o_n o') j n then (4, 0, s_o S)
  else if o_k o' ≤ 3 then (0, n, va_up (s_o S) h' (some (o_setf o' (va_cpy (o_f o) (o_f o') i.toNatClampNeg j.toNatClampNeg n.toNatClampNeg))))
  else (if fitN S (o_k o') (o_e o) n.toNatClampNeg i.toNatClampNeg = n.toNatClampNeg then 0 else 5, nI (fitN S (o_k o') (o_e o) n.toNatClampNeg i.toNatClampNeg), va_up (s_o S) h' (some (o_sete o' (va_cpy (o_e o) (o_e o') i.toNatClampNeg j.toNatClampNeg (fitN S (o_k o') (o_e o) n.toNatClampNeg i.toNatClampNeg)))))
theorem mv_no {S : St} {a i b j n : Int32} (h : ¬ ref3 (obj S (itm S a)) (obj S (itm S b)) = 0) (hI : Inv S) : mv S a i b j n = (ref3 (obj S (itm S a)) (obj S (itm S b)), 0, s_o S) := by
  unfold mv
  cases ha : itm S a with
  | none => simp [obj, ref3]
  | some x =>
    cases hb : itm S b with
    | none => simp [obj, ref3]
    | some y =>
      obtain ⟨o, ho⟩ := itm_o hI ha
      obtain ⟨o', ho'⟩ := itm_o hI hb
      have e1 : obj S (some x) = some o := ho
      have e2 : obj S (some y) = some o' := ho'
      rw [ha, hb, e1, e2] at h
      rw [e1, e2]
      simp [ho, ho', h]
theorem mv_ok {S : St} {a i b j n : Int32} {x y : Nat} {o o' : Ob} (ha : itm S a = some x) (hb : itm S b = some y) (ho : s_o S x = some o) (ho' : s_o S y = some o') (h : ref3 (some o) (some o') = 0) : mv S a i b j n = mvR S y o o' i j n := by
  unfold mv mvR
  simp [ha, hb, ho, ho', h]
theorem inS_nI {n : Nat} {i k : Int32} (h : inS n i k) (hn : n ≤ 2000) : ∃ i' k' : Nat, i = nI i' ∧ k = nI k' ∧ i' + k' ≤ n := by
  obtain ⟨h1, h2, h3⟩ := h
  obtain ⟨i', g1, rfl⟩ := nI_of h1
  obtain ⟨k', g2, rfl⟩ := nI_of h2
  rw [nI_toInt g1, nI_toInt g2] at h3
  exact ⟨i', k', rfl, rfl, by omega⟩
theorem upd_same {f : Nat → Int32} {k : Nat} {v : Int32} (h : f k = v) : upd f k v = f := by
  funext j
  by_cases hj : j = k
  · subst hj; rw [pk_us, h]
  · rw [pk_un hj]
theorem upd_43 {c : Nat → Int32} {m r a b : Int32} : upd (upd (upd (upd c 3 a) 4 b) 3 m) 4 r = upd (upd c 3 m) 4 r := by
  funext j
  by_cases h4 : j = 4
  · subst h4; rw [pk_us, pk_us]
  · rw [pk_un h4, pk_un h4]
    by_cases h3 : j = 3
    · subst h3; rw [pk_us, pk_us]
    · rw [pk_un h3, pk_un h4, pk_un h3, pk_un h3]
/-! what holds of a state goes on -/
theorem Inv.put {S : St} (hI : Inv S) {h : Nat} {o o2 : Ob} (ho : s_o S h = some o) (hk : o_k o2 = o_k o) (hn : o_n o2 = o_n o) (he : 4 ≤ o_k o → o_k o ≤ 6 → ∀ i h', o_e o2 i = some h' → ∃ o', s_o S h' = some o' ∧ fitK (o_k o) (o_k o')) : Inv (s_put S h o2) := by
  obtain ⟨g1, g2, g3, g4, g5, g6, g7⟩ := hI
  have key : ∀ {b : Nat} {ob : Ob}, s_o (s_put S h o2) b = some ob → ∃ ob0, s_o S b = some ob0 ∧ o_k ob = o_k ob0 ∧ o_n ob = o_n ob0 := by
    intro b ob hb
    by_cases hbh : b = h
    · subst hbh
      have := hb.symm.trans (va_up_eq (f := s_o S) (k := b) (v := some o2))
      cases this
      exact ⟨o, ho, hk, hn⟩
    · exact ⟨ob, by rw [← hb]; exact (va_up_ne (s_o S) _ hbh).symm, rfl, rfl⟩
  have kay : ∀ {b : Nat} {ob : Ob}, s_o S b = some ob → ∃ ob1, s_o (s_put S h o2) b = some ob1 ∧ o_k ob1 = o_k ob := by
    intro b ob hb
    by_cases hbh : b = h
    · subst hbh
      rw [ho] at hb
      cases hb
      exact ⟨o2, va_up_eq (f := s_o S), hk⟩
    · exact ⟨ob, by rw [← hb]; exact va_up_ne (s_o S) _ hbh, rfl⟩
  refine ⟨g1, g2, g3, fun a oa ha => ?_, fun a a' oa oa' ha ha' hl => ?_, fun i a hi => ?_, fun a oa ha k4 k6 i a' hi => ?_⟩
  · obtain ⟨o0, q1, q2, q3⟩ := key ha
    have := g4 a o0 q1
    rw [q2, q3]
    exact this
  · obtain ⟨o0, q1, q2, q3⟩ := key ha
    obtain ⟨o0', q1', -⟩ := key ha'
    rw [q3]
    exact g5 a a' o0 o0' q1 q1' hl
  · obtain ⟨o0, q1⟩ := g6 i a hi
    obtain ⟨o1, q2, -⟩ := kay q1
    exact ⟨o1, q2⟩
  · have : ∃ o0', s_o S a' = some o0' ∧ fitK (o_k oa) (o_k o0') := by
      by_cases hah : a = h
      · subst hah
        have := ha.symm.trans (va_up_eq (f := s_o S) (k := a) (v := some o2))
        cases this
        rw [hk] at k4 k6 ⊢
        exact he k4 k6 i a' hi
      · have ha0 : s_o S a = some oa := by rw [← ha]; exact (va_up_ne (s_o S) _ hah).symm
        exact g7 a oa ha0 k4 k6 i a' hi
    obtain ⟨o0', q1, q2⟩ := this
    obtain ⟨o1, q3, q4⟩ := kay q1
    exact ⟨o1, q3, by rw [q4]; exact q2⟩
theorem fitE_K {S : St} {k h : Nat} {o : Ob} (hk : 4 ≤ k) (hk6 : k ≤ 6) (ho : s_o S h = some o) (hf : fitE S k (some h) = true) : fitK k (o_k o) := by
  unfold fitE at hf
  rw [show obj S (some h) = some o from ho] at hf
  exact (fitK_iff hk hk6).mpr (of_decide_eq_true hf)
theorem ref3_zero {o o' : Ob} (h : ref3 (some o) (some o') = 0) : o_k o ≤ 6 ∧ o_k o' ≤ 6 ∧ ((4 ≤ o_k o ∧ 4 ≤ o_k o') ∨ o_k o = o_k o') := by
  unfold ref3 at h
  by_cases h1 : 7 ≤ o_k o
  · simp [h1] at h
  · by_cases h2 : 7 ≤ o_k o'
    · simp [h1, h2] at h
    · by_cases h3 : (4 ≤ o_k o ∧ 4 ≤ o_k o') ∨ o_k o = o_k o'
      · exact ⟨by omega, by omega, h3⟩
      · simp [h1, h2, h3] at h
theorem inv_mvR {S : St} (hI : Inv S) {x y : Nat} {o o' : Ob} (ho : s_o S x = some o) (ho' : s_o S y = some o') (h3 : ref3 (some o) (some o') = 0) (i j n : Int32) : Inv (s_u S, (mvR S y o o' i j n).2.2, s_s S, s_l S, s_c S) := by
  unfold mvR
  by_cases h1 : inS (o_n o) i n
  · rw [if_neg (fun q => q h1)]
    by_cases h2 : inS (o_n o') j n
    · rw [if_neg (fun q => q h2)]
      by_cases hk : o_k o' ≤ 3
      · rw [if_pos hk]
        exact hI.put ho' (o2 := o_setf o' _) rfl rfl (fun k4 k6 t h hi => hI.2.2.2.2.2.2 y o' ho' k4 k6 t h hi)
      · rw [if_neg hk]
        refine hI.put ho' (o2 := o_sete o' _) rfl rfl (fun k4 k6 t h hi => ?_)
        have hz := ref3_zero h3
        have hi : va_cpy (o_e o) (o_e o') i.toNatClampNeg j.toNatClampNeg (fitN S (o_k o') (o_e o) n.toNatClampNeg i.toNatClampNeg) t = some h := hi
        by_cases hr : j.toNatClampNeg ≤ t ∧ t < j.toNatClampNeg + fitN S (o_k o') (o_e o) n.toNatClampNeg i.toNatClampNeg
        · rw [pk_cpy_in hr.1 hr.2] at hi
          obtain ⟨o1, g1⟩ := hI.el ho (by omega) (by omega) _ h hi
          have hf := fitN_lt (S := S) (k := o_k o') (e := o_e o) (n := n.toNatClampNeg) (i := i.toNatClampNeg) (t := t - j.toNatClampNeg) (by omega)
          rw [hi] at hf
          exact ⟨o1, g1, fitE_K k4 k6 g1 hf⟩
        · rw [pk_cpy_out (by omega)] at hi
          exact hI.2.2.2.2.2.2 y o' ho' k4 k6 t h hi
    · rw [if_pos h2]
      exact hI
  · rw [if_pos h1]
    exact hI
theorem inv_move {S : St} (hI : Inv S) (a i b j n : Int32) : Inv (sp_move S a i b j n).2 := by
  have key : ∀ (r m : Int32), (mvc (s_c S) r m) 0 = s_c S 0 ∧ (mvc (s_c S) r m) 1 = s_c S 1 := by
    intro r m
    unfold mvc
    split <;> exact ⟨rfl, rfl⟩
  have main : Inv (s_u S, (mv S a i b j n).2.2, s_s S, s_l S, s_c S) := by
    by_cases h : ref3 (obj S (itm S a)) (obj S (itm S b)) = 0
    · cases ha : itm S a with
      | none => rw [ha] at h; simp [obj, ref3] at h
      | some x =>
        cases hb : itm S b with
        | none => rw [ha, hb] at h; simp [obj, ref3] at h
        | some y =>
          obtain ⟨o, ho⟩ := itm_o hI ha
          obtain ⟨o', ho'⟩ := itm_o hI hb
          rw [obj_some ha ho, obj_some hb ho'] at h
          rw [mv_ok ha hb ho ho' h]
          exact inv_mvR hI ho ho' h i j n
    · rw [mv_no h hI]
      exact hI
  exact main.sc _ (key _ _).1 (key _ _).2
theorem u_refusalOfRows (l : Launch) {G : Gt} {ws : va_W} (sz : Nat) {x sh li : Nat} {ad ar : Nat → Nat} {S : St} (hR : RpX G x sh li ad ar S ws) (hI : Inv S) (r r9 : Option Nat) (hv : okr S r) (hv9 : okr S r9) : Met l yX5_refusalOfRows wsX5_refusalOfRows ({ frames := 0, cells := 0, slots := 0, locals := 0 } : Room) (Pw G [va_rf (r.map ad), va_rf (r9.map ad)] ws sz) (vp_Si (fun z : Int32 => z = ref3 (obj S r) (obj S r9))) 0 0 (fun _ => False) := by
  cases r with
  | none =>
    have e : ref3 (obj S none) (obj S r9) = 1 := by simp [obj, ref3]
    rw [e]
    cases r9 with
    | none => exact c_refusalOfRows_NN l sz
    | some h9 => exact c_refusalOfRows_NS l sz (ad h9)
  | some h =>
    obtain ⟨o, ho⟩ := hv h rfl
    have hk8 := (hI.ob ho).1
    cases r9 with
    | none =>
      have e : ref3 (obj S (some h)) (obj S none) = 1 := by
        rw [show obj S (some h) = some o from ho]
        simp [obj, ref3]
      rw [e]
      exact c_refusalOfRows_M l sz (ad h)
    | some h9 =>
      obtain ⟨o9, ho9⟩ := hv9 h9 rfl
      have hk9 := (hI.ob ho9).1
      have e : ref3 (obj S (some h)) (obj S (some h9)) = if 7 ≤ o_k o then 2 else if 7 ≤ o_k o9 then 2 else if (4 ≤ o_k o ∧ 4 ≤ o_k o9) ∨ o_k o = o_k o9 then 0 else 3 := by
        rw [show obj S (some h) = some o from ho, show obj S (some h9) = some o9 from ho9]
        rfl
      rw [e]
      obtain ⟨dk, kd, q1, -⟩ := hR.2.2.2.1 h o ho
      obtain ⟨dk9, kd9, p1, -⟩ := hR.2.2.2.1 h9 o9 ho9
      rcases (show o_k o ≤ 3 ∨ (4 ≤ o_k o ∧ o_k o ≤ 6) ∨ 7 ≤ o_k o by omega) with hk | ⟨hk, hm⟩ | hk <;> rcases (show o_k o9 ≤ 3 ∨ (4 ≤ o_k o9 ∧ o_k o9 ≤ 6) ∨ 7 ≤ o_k o9 by omega) with h0 | ⟨h0, h6⟩ | h0
      · rw [o_num hk] at q1; rw [o_num h0] at p1
        exact c_refusalOfRows_00 l sz q1 hk p1 h0
      · rw [o_num hk] at q1; rw [o_obj h0 h6] at p1
        exact c_refusalOfRows_01 l sz q1 hk p1 h0 h6
      · rw [o_num hk] at q1; rw [o_thg h0] at p1
        exact c_refusalOfRows_02 l sz q1 hk p1 h0 hk9
      · rw [o_obj hk hm] at q1; rw [o_num h0] at p1
        exact c_refusalOfRows_10 l sz q1 hk hm p1 h0
      · rw [o_obj hk hm] at q1; rw [o_obj h0 h6] at p1
        exact c_refusalOfRows_11 l sz q1 hk hm p1 h0 h6
      · rw [o_obj hk hm] at q1; rw [o_thg h0] at p1
        exact c_refusalOfRows_12 l sz q1 hk hm p1 h0 hk9
      · rw [o_thg hk] at q1; rw [o_num h0] at p1
        exact c_refusalOfRows_20 l sz q1 hk hk8 p1 h0
      · rw [o_thg hk] at q1; rw [o_obj h0 h6] at p1
        exact c_refusalOfRows_21 l sz q1 hk hk8 p1 h0 h6
      · rw [o_thg hk] at q1; rw [o_thg h0] at p1
        exact c_refusalOfRows_22 l sz q1 hk hk8 p1 h0 hk9
end
section
theorem put_kind {S : St} {h h9 : Nat} {o o9 o9b : Ob} (ho : s_o S h = some o) (ho9 : s_o S h9 = some o9) (hk : o_k o9b = o_k o9) : ∃ o2, va_up (s_o S) h9 (some o9b) h = some o2 ∧ o_k o2 = o_k o := by
  by_cases hh : h = h9
  · subst hh
    rw [ho] at ho9
    cases ho9
    exact ⟨o9b, va_up_eq, hk⟩
  · exact ⟨o, by rw [va_up_ne _ _ hh]; exact ho, rfl⟩
theorem map_cpy {ad : Nat → Nat} {f g : Nat → Option Nat} {i j n : Nat} : va_cpy (fun z => (f z).map ad) (fun z => (g z).map ad) i j n = fun z => (va_cpy f g i j n z).map ad := by
  funext z
  unfold va_cpy
  split <;> rfl
set_option maxHeartbeats 4000000 in
set_option maxRecDepth 100000 in
theorem c_takeFittingSpan (l : Launch) {G : Gt} {ws : va_W} (sz : Nat) {x sh li : Nat} {ad ar : Nat → Nat} {S : St} (hR : RpX G x sh li ad ar S ws) (hI : Inv S) {h : Nat} {o : Ob} (ho : s_o S h = some o) {h9 : Nat} {o9 : Ob} (ho9 : s_o S h9 = some o9) (hk : 4 ≤ o_k o) (hm : o_k o ≤ 6) (hk9 : 4 ≤ o_k o9) (hm9 : o_k o9 ≤ 6) (j i n : Nat) (b9 : i + n ≤ o_n o9) (b0 : j + n ≤ o_n o) : Met l yX2_takeFittingSpan wsX2_takeFittingSpan ({ frames := 1, cells := 0, slots := 0, locals := 40 } : Room) (Pw G [.ref (ad h), .int (nI j), .ref (ad h9), .int (nI i), .int (nI n)] ws sz) (va_Qi (fun (r : Int32) (u : va_W) => r = nI (fitN S (o_k o) (o_e o9) n i) ∧ hu ws (ar h) (aT G (o_n o) (va_cpy (fun z => (o_e o9 z).map ad) (fun z => (o_e o z).map ad) i j (fitN S (o_k o) (o_e o9) n i))) u) (Bw G ws sz) (va_A ws sz)) 0 0 (va_A ws sz) := by
  refine Met_pw (cc := cX2_takeFittingSpan) (maxL := 6) (ret := (some .int)) (by decide) rfl (Nat.le_of_ble_eq_true rfl) ?_
  intro p e s m below meth c ls hsz S9 hr hlk hnm w hl
  subst hsz
  replace S9 : CallFix p m c cX2_takeFittingSpan 6 s _ wsX2_takeFittingSpan RX2 := S9
  have hx := S9.1
  have hb := S9.2.1
  have hown := S9.2.2.2.1
  have hts := S9.2.2.2.2
  replace hl : lv_has ls 6 [(0, .ref (ad h)), (1, .int (nI j)), (2, .ref (ad h9)), (3, .int (nI i)), (4, .int (nI n))] := hl
  obtain ⟨dk, kd, q1, q2, q3, q4⟩ := hR.2.2.2.1 h o ho
  obtain ⟨dk9, kd9, p1, p2, p3, p4⟩ := hR.2.2.2.1 h9 o9 ho9
  rw [o_obj hk hm] at q1
  rw [o_obj hk9 hm9] at p1
  have n0 := (hI.ob ho).2
  have n9 := (hI.ob ho9).2
  refine lv_iconst (v := 0) hx hb dX2_takeFittingSpan_0 (by decide) ?_
  refine lv_istore (lv' := [(5, .int 0), (0, .ref (ad h)), (1, .int (nI j)), (2, .ref (ad h9)), (3, .int (nI i)), (4, .int (nI n))]) hx hb dX2_takeFittingSpan_1 hl (by decide) rfl (fun ls hl => ?_)
  obtain ⟨t, ht, hv, hF⟩ : ∃ t : Nat, t ≤ n ∧ (0 : Int32) = nI t ∧ fitN S (o_k o) (o_e o9) n i = t + fitN S (o_k o) (o_e o9) (n - t) (i + t) := ⟨0, by omega, rfl, by simp⟩
  generalize (0 : Int32) = v at hl hv
  obtain ⟨g, hg⟩ : ∃ g, n - t < g := ⟨_, Nat.lt_succ_self _⟩
  induction g generalizing t v ls with
  | zero => exact absurd hg (Nat.not_lt_zero _)
  | succ g ih =>
    refine lv_iload hx hb dX2_takeFittingSpan_3 (lv_at hl 0 rfl) ?_
    refine lv_iload hx hb dX2_takeFittingSpan_5 (lv_at hl 5 rfl) ?_
    refine lv_icmp_ge (tgt := 32) hx hb dX2_takeFittingSpan_7 (by decide) (fun c_7 => ?_) (fun c_7 => ?_)
    · refine lv_aload_n hx hb dX2_takeFittingSpan_32 rfl (lv_at hl 3 rfl) ?_
      refine r_get (ref := "SpanMover$ObjectRow") S9 w p1 rfl (by decide +kernel) 2 (by decide) (by decide +kernel) (Or.inl rfl) rfl dX2_takeFittingSpan_33 ?_
      refine lv_iload_n hx hb dX2_takeFittingSpan_36 rfl (lv_at hl 4 rfl) ?_
      refine lv_aload_n hx hb dX2_takeFittingSpan_37 rfl (lv_at hl 1 rfl) ?_
      refine r_get (ref := "SpanMover$ObjectRow") S9 w q1 rfl (by decide +kernel) 2 (by decide) (by decide +kernel) (Or.inl rfl) rfl dX2_takeFittingSpan_38 ?_
      refine lv_iload_n hx hb dX2_takeFittingSpan_41 rfl (lv_at hl 2 rfl) ?_
      refine lv_iload hx hb dX2_takeFittingSpan_42 (lv_at hl 0 rfl) ?_
      have hT : fitN S (o_k o) (o_e o9) n i = t := by
        have h4 := ge_nI hv ht (by omega) c_7
        subst h4
        rw [hF, Nat.sub_self]
        rfl
      have y1 : (nI i).toNatClampNeg = i := nI_clamp (by omega)
      have y2 : (nI j).toNatClampNeg = j := nI_clamp (by omega)
      have y3 : v.toNatClampNeg = t := cl_nI hv (by omega)
      refine r_cpyT S9 w hl.1 (by decide +kernel) (p4 hk9 hm9) (q4 hk hm) (nI_pos (by omega)) (nI_pos (by omega)) (by rw [hv]; exact nI_pos (by omega)) (by rw [y1, y3]; omega) (by rw [y2, y3]; omega) ?_ (Nat.le_of_ble_eq_true rfl) (Nat.le_of_ble_eq_true rfl) dX2_takeFittingSpan_44 (fun ws8 H8 lc8 u8 w8 => ?_)
      · intro z y hy
        have hy : (o_e o9 z).map ad = some y := hy
        cases hz : o_e o9 z with
        | none => rw [hz] at hy; cases hy
        | some h5 =>
          rw [hz] at hy
          cases hy
          obtain ⟨o5, ho5⟩ := hI.el ho9 hk9 hm9 z h5 hz
          obtain ⟨dk5, kd5, r1, -⟩ := hR.2.2.2.1 h5 o5 ho5
          exact w.any r1 (o_cl3 _)
      rw [y1, y2, y3] at u8
      refine lv_iload hx hb dX2_takeFittingSpan_47 (lv_at hl 0 rfl) ?_
      exact ew_i S9 hr hlk w8 (⟨by rw [hT]; exact hv, by rw [hT]; exact u8⟩) dX2_takeFittingSpan_49 (by decide) (by decide)
    · refine lv_aload_n hx hb dX2_takeFittingSpan_10 rfl (lv_at hl 1 rfl) ?_
      refine lv_aload_n hx hb dX2_takeFittingSpan_11 rfl (lv_at hl 3 rfl) ?_
      refine r_get (ref := "SpanMover$ObjectRow") S9 w p1 rfl (by decide +kernel) 2 (by decide) (by decide +kernel) (Or.inl rfl) rfl dX2_takeFittingSpan_12 ?_
      refine lv_iload_n hx hb dX2_takeFittingSpan_15 rfl (lv_at hl 4 rfl) ?_
      refine lv_iload hx hb dX2_takeFittingSpan_16 (lv_at hl 0 rfl) ?_
      refine lv_iadd hx hb dX2_takeFittingSpan_18 ?_
      refine lv_topi (fun v1 ev1 => ?_)
      refine r_aald S9 w (p4 hk9 hm9) (by rw [show v1 = nI (i + t) from by rw [ev1, hv]; exact nI_add i t]; exact vp_in_nI (by have := nge_nI hv ht (by omega) c_7; omega) (by omega)) dX2_takeFittingSpan_19 ?_
      refine k_vi S9 w (u_isFitFor l _ hR hI q1 hk hm (o_e o9 v1.toNatClampNeg) (hI.el ho9 hk9 hm9 _)) q1 rfl (cwV 1 hts gX2_takeFittingSpan_X2_isFitFor rfl rfl rfl (by decide +kernel) ⟨Nat.le_of_ble_eq_true rfl, Nat.le_of_ble_eq_true rfl⟩) rfl hl.1 rfl (Nat.le_of_ble_eq_true rfl) dX2_takeFittingSpan_20 ⟨Nat.le_of_ble_eq_true rfl, Nat.le_of_ble_eq_true rfl⟩ (fun v10 e10 => ?_)
      refine lv_if_eq (tgt := 32) hx hb dX2_takeFittingSpan_23 (by decide) (fun c_23 => ?_) (fun c_23 => ?_)
      · refine lv_aload_n hx hb dX2_takeFittingSpan_32 rfl (lv_at hl 3 rfl) ?_
        refine r_get (ref := "SpanMover$ObjectRow") S9 w p1 rfl (by decide +kernel) 2 (by decide) (by decide +kernel) (Or.inl rfl) rfl dX2_takeFittingSpan_33 ?_
        refine lv_iload_n hx hb dX2_takeFittingSpan_36 rfl (lv_at hl 4 rfl) ?_
        refine lv_aload_n hx hb dX2_takeFittingSpan_37 rfl (lv_at hl 1 rfl) ?_
        refine r_get (ref := "SpanMover$ObjectRow") S9 w q1 rfl (by decide +kernel) 2 (by decide) (by decide +kernel) (Or.inl rfl) rfl dX2_takeFittingSpan_38 ?_
        refine lv_iload_n hx hb dX2_takeFittingSpan_41 rfl (lv_at hl 2 rfl) ?_
        refine lv_iload hx hb dX2_takeFittingSpan_42 (lv_at hl 0 rfl) ?_
        have hT : fitN S (o_k o) (o_e o9) n i = t := by
          have ht4 := nge_nI hv ht (by omega) c_7
          have x1 : v1 = nI (i + t) := by rw [ev1, hv]; exact nI_add i t
          rw [e10, cl_nI x1 (by omega)] at c_23
          rw [hF]
          refine fitN_stop ht4 ?_
          cases hf : fitE S (o_k o) (o_e o9 (i + t)) with
          | false => rfl
          | true => simp [hf] at c_23
        have y1 : (nI i).toNatClampNeg = i := nI_clamp (by omega)
        have y2 : (nI j).toNatClampNeg = j := nI_clamp (by omega)
        have y3 : v.toNatClampNeg = t := cl_nI hv (by omega)
        refine r_cpyT S9 w hl.1 (by decide +kernel) (p4 hk9 hm9) (q4 hk hm) (nI_pos (by omega)) (nI_pos (by omega)) (by rw [hv]; exact nI_pos (by omega)) (by rw [y1, y3]; omega) (by rw [y2, y3]; omega) ?_ (Nat.le_of_ble_eq_true rfl) (Nat.le_of_ble_eq_true rfl) dX2_takeFittingSpan_44 (fun ws8 H8 lc8 u8 w8 => ?_)
        · intro z y hy
          have hy : (o_e o9 z).map ad = some y := hy
          cases hz : o_e o9 z with
          | none => rw [hz] at hy; cases hy
          | some h5 =>
            rw [hz] at hy
            cases hy
            obtain ⟨o5, ho5⟩ := hI.el ho9 hk9 hm9 z h5 hz
            obtain ⟨dk5, kd5, r1, -⟩ := hR.2.2.2.1 h5 o5 ho5
            exact w.any r1 (o_cl3 _)
        rw [y1, y2, y3] at u8
        refine lv_iload hx hb dX2_takeFittingSpan_47 (lv_at hl 0 rfl) ?_
        exact ew_i S9 hr hlk w8 (⟨by rw [hT]; exact hv, by rw [hT]; exact u8⟩) dX2_takeFittingSpan_49 (by decide) (by decide)
      · obtain ⟨v2, ev2⟩ : ∃ z : Int32, z = v + 1 := ⟨_, rfl⟩
        refine lv_iinc (v := v2) (lv' := [(5, .int v2), (0, .ref (ad h)), (1, .int (nI j)), (2, .ref (ad h9)), (3, .int (nI i)), (4, .int (nI n))]) hx hb dX2_takeFittingSpan_26 hl (k := 0) rfl (by rw [ev2]; rfl) (by decide) rfl (fun ls hl => ?_)
        refine lv_goto (tgt := 3) hx hb dX2_takeFittingSpan_29 (by decide) ?_
        have ht4 := nge_nI hv ht (by omega) c_7
        have x1 : v1 = nI (i + t) := by rw [ev1, hv]; exact nI_add i t
        rw [e10, cl_nI x1 (by omega)] at c_23
        have hfit : fitE S (o_k o) (o_e o9 (i + t)) = true := by
          by_cases hf : fitE S (o_k o) (o_e o9 (i + t)) = true
          · exact hf
          · simp [hf] at c_23
        exact ih (ls := ls) (t := t + 1) (v := v2) (ht := by omega) (hv := by rw [ev2, hv]; exact nI_1 t) (hF := by rw [hF, fitN_step ht4 hfit]) (hl := hl) (hg := by omega)

set_option maxHeartbeats 4000000 in
set_option maxRecDepth 100000 in
theorem c_moveSpan_N (l : Launch) {G : Gt} {ws : va_W} (sz : Nat) {x sh li : Nat} {ad ar : Nat → Nat} {S : St} (hR : RpX G x sh li ad ar S ws) (hI : Inv S) {h : Nat} {o : Ob} (ho : s_o S h = some o) {h9 : Nat} {o9 : Ob} (ho9 : s_o S h9 = some o9) (hk : o_k o ≤ 3) (hk9 : o_k o9 ≤ 3) (hz : s_c S 3 = 0) (i j n : Int32) : Met l yX5_moveSpan wsX5_moveSpan ({ frames := 2, cells := 0, slots := 0, locals := 65 } : Room) (Pw G [.ref x, .ref (ad h), .int i, .ref (ad h9), .int j, .int n] ws sz) (va_Qi (fun (r : Int32) (u : va_W) => r = (mvR S h9 o o9 i j n).1 ∧ RpX G x sh li ad ar (s_u S, (mvR S h9 o o9 i j n).2.2, s_s S, s_l S, upd (s_c S) 3 (mvR S h9 o o9 i j n).2.1) u) (Bw G ws sz) (va_A ws sz)) 0 0 (va_A ws sz) := by
  refine Met_pw (cc := cX5_moveSpan) (maxL := 8) (ret := (some .int)) (by decide) rfl (Nat.le_of_ble_eq_true rfl) ?_
  intro p e s m below meth c ls hsz S9 hr hlk hnm w hl
  subst hsz
  replace S9 : CallFix p m c cX5_moveSpan 8 s _ wsX5_moveSpan RX5 := S9
  have hx := S9.1
  have hb := S9.2.1
  have hown := S9.2.2.2.1
  have hts := S9.2.2.2.2
  replace hl : lv_has ls 8 [(0, .ref x), (1, .ref (ad h)), (2, .int i), (3, .ref (ad h9)), (4, .int j), (5, .int n)] := hl
  obtain ⟨dk, kd, q1, q2, q3, q4⟩ := hR.2.2.2.1 h o ho
  obtain ⟨dk9, kd9, p1, p2, p3, p4⟩ := hR.2.2.2.1 h9 o9 ho9
  rw [o_num hk] at q1
  rw [o_num hk9] at p1
  have n0 := (hI.ob ho).2
  have n9 := (hI.ob ho9).2
  refine lv_aload_n hx hb dX5_moveSpan_0 rfl (lv_at hl 1 rfl) ?_
  refine lv_iload_n hx hb dX5_moveSpan_1 rfl (lv_at hl 2 rfl) ?_
  refine lv_iload hx hb dX5_moveSpan_2 (lv_at hl 5 rfl) ?_
  refine k_ui S9 w (c_hasSpan_0 l _ q1 (by omega) i n) q1 rfl (va_cwU 2 hts gX5_moveSpan_X3_hasSpan_u152X1 rfl rfl rfl rfl (by decide +kernel) ⟨Nat.le_of_ble_eq_true rfl, Nat.le_of_ble_eq_true rfl⟩) rfl hl.1 rfl (Nat.le_of_ble_eq_true rfl) dX5_moveSpan_4 ⟨Nat.le_of_ble_eq_true rfl, Nat.le_of_ble_eq_true rfl⟩ (fun v7 e7 => ?_)
  refine lv_if_eq (tgt := 21) hx hb dX5_moveSpan_7 (by decide) (fun c_7 => ?_) (fun c_7 => ?_)
  · refine lv_iconst (v := 4) hx hb dX5_moveSpan_21 (by decide) ?_
    exact ew_i S9 hr hlk w (by have s1 : ¬ inS (o_n o) i n := (fun q => by rw [e7, if_pos q] at c_7; exact absurd c_7 (by decide)); rw [show mvR S h9 o o9 i j n = (4, 0, s_o S) from by unfold mvR; rw [if_pos s1]]; exact ⟨rfl, by rw [upd_same hz]; exact hR⟩) dX5_moveSpan_22 (by decide) (by decide)
  · refine lv_aload_n hx hb dX5_moveSpan_10 rfl (lv_at hl 3 rfl) ?_
    refine lv_iload hx hb dX5_moveSpan_11 (lv_at hl 4 rfl) ?_
    refine lv_iload hx hb dX5_moveSpan_13 (lv_at hl 5 rfl) ?_
    refine k_ui S9 w (c_hasSpan_0 l _ p1 (by omega) j n) p1 rfl (va_cwU 2 hts gX5_moveSpan_X3_hasSpan_u152X1 rfl rfl rfl rfl (by decide +kernel) ⟨Nat.le_of_ble_eq_true rfl, Nat.le_of_ble_eq_true rfl⟩) rfl hl.1 rfl (Nat.le_of_ble_eq_true rfl) dX5_moveSpan_15 ⟨Nat.le_of_ble_eq_true rfl, Nat.le_of_ble_eq_true rfl⟩ (fun v8 e8 => ?_)
    refine lv_if_ne (tgt := 23) hx hb dX5_moveSpan_18 (by decide) (fun c_18 => ?_) (fun c_18 => ?_)
    · have s1 : inS (o_n o) i n := by
        rw [e7] at c_7
        by_cases q : inS (o_n o) i n
        · exact q
        · rw [if_neg q] at c_7; exact absurd rfl c_7
      have s2 : inS (o_n o9) j n := by
        rw [e8] at c_18
        by_cases q : inS (o_n o9) j n
        · exact q
        · rw [if_neg q] at c_18; exact absurd rfl c_18
      obtain ⟨i', n', rfl, rfl, b0⟩ := inS_nI s1 n0
      obtain ⟨j', n2, rfl, e2, b9⟩ := inS_nI s2 n9
      have e2 := (nI_eq (by omega) (by omega)).mp e2
      subst e2
      have y1 : (nI i').toNatClampNeg = i' := nI_clamp (by omega)
      have y2 : (nI j').toNatClampNeg = j' := nI_clamp (by omega)
      have y3 : (nI n').toNatClampNeg = n' := nI_clamp (by omega)
      refine lv_aload_n hx hb dX5_moveSpan_23 rfl (lv_at hl 1 rfl) ?_
      refine r_inst S9 w q1 (by decide) 0 (by decide) (by decide +kernel) (v := 1) rfl dX5_moveSpan_24 ?_
      refine lv_if_eq (tgt := 67) hx hb dX5_moveSpan_27 (by decide) (fun c_27 => absurd c_27 (by decide)) (fun c_27 => ?_)
      refine lv_aload_n hx hb dX5_moveSpan_30 rfl (lv_at hl 1 rfl) ?_
      refine r_cast S9 w q1 (by decide) 0 (by decide) rfl (by decide +kernel) dX5_moveSpan_31 ?_
      refine lv_astore (lv' := [(6, .ref (ad h)), (0, .ref x), (1, .ref (ad h)), (2, .int (nI i')), (3, .ref (ad h9)), (4, .int (nI j')), (5, .int (nI n'))]) hx hb dX5_moveSpan_34 hl (by decide) rfl (fun ls hl => ?_)
      refine lv_aload_n hx hb dX5_moveSpan_36 rfl (lv_at hl 4 rfl) ?_
      refine r_inst S9 w p1 (by decide) 0 (by decide) (by decide +kernel) (v := 1) rfl dX5_moveSpan_37 ?_
      refine lv_if_eq (tgt := 67) hx hb dX5_moveSpan_40 (by decide) (fun c_40 => absurd c_40 (by decide)) (fun c_40 => ?_)
      refine lv_aload_n hx hb dX5_moveSpan_43 rfl (lv_at hl 4 rfl) ?_
      refine r_cast S9 w p1 (by decide) 0 (by decide) rfl (by decide +kernel) dX5_moveSpan_44 ?_
      refine lv_astore (lv' := [(7, .ref (ad h9)), (6, .ref (ad h)), (0, .ref x), (1, .ref (ad h)), (2, .int (nI i')), (3, .ref (ad h9)), (4, .int (nI j')), (5, .int (nI n'))]) hx hb dX5_moveSpan_47 hl (by decide) rfl (fun ls hl => ?_)
      refine lv_aload hx hb dX5_moveSpan_49 (lv_at hl 0 rfl) ?_
      refine lv_iload hx hb dX5_moveSpan_51 (lv_at hl 6 rfl) ?_
      refine lv_aload hx hb dX5_moveSpan_53 (lv_at hl 1 rfl) ?_
      refine lv_iload_n hx hb dX5_moveSpan_55 rfl (lv_at hl 4 rfl) ?_
      refine lv_iload hx hb dX5_moveSpan_56 (lv_at hl 7 rfl) ?_
      refine kw_vv S9 w (c_takeSpan l _ p1 (p3 hk9) q1 (q3 hk) (nI j') (nI i') (nI n') (nI_pos (by omega)) (nI_pos (by omega)) (nI_pos (by omega)) (by rw [y1, y3]; omega) (by rw [y2, y3]; omega)) p1 rfl (cwV 4 hts gX5_moveSpan_X1_takeSpan rfl rfl rfl (by decide +kernel) ⟨Nat.le_of_ble_eq_true rfl, Nat.le_of_ble_eq_true rfl⟩) rfl hl.1 rfl (Nat.le_of_ble_eq_true rfl) dX5_moveSpan_58 ⟨Nat.le_of_ble_eq_true rfl, Nat.le_of_ble_eq_true rfl⟩ (fun u8 H8 lc8 p8 w8 => ?_)
      obtain ⟨ws9, g1, g2⟩ := p8
      rw [y1, y2, y3] at g1
      have hR7 := RpX.num w.2.1 hR ho9 hk9 g1 g2
      replace hR7 : RpX G x sh li ad ar (s_u S, va_up (s_o S) h9 (some (o_setf o9 (va_cpy (o_f o) (o_f o9) i' j' n'))), s_s S, s_l S, s_c S) u8 := hR7
      refine lv_aload_n hx hb dX5_moveSpan_61 rfl (lv_at hl 2 rfl) ?_
      refine lv_iload hx hb dX5_moveSpan_62 (lv_at hl 7 rfl) ?_
      refine r_put (ref := "SpanMover") S9 w8 hR7.1 rfl (by decide +kernel) tyX5_ok nmX5 5 (by decide) (by decide +kernel) (Or.inl rfl) rfl rfl rfl (Nat.le_of_ble_eq_true rfl) dX5_moveSpan_64 (fun ws11 H11 lc11 u11 w11 => ?_)
      have hR11 := RpX.sc w8.2.1 hR7 u11 (oX_set sh li (s_c S) 3 (by decide) (nI n'))
      replace hR11 : RpX G x sh li ad ar (s_u S, va_up (s_o S) h9 (some (o_setf o9 (va_cpy (o_f o) (o_f o9) i' j' n'))), s_s S, s_l S, upd (s_c S) 3 (nI n')) ws11 := hR11
      have hx11 : hp ws11 x (.inr (3, [.ref sh, .ref li, .int (s_c S 0), .int (s_c S 1), .int (s_c S 2), .int (nI n'), .int (s_c S 4), .int (s_c S 5), .int (s_c S 6)])) := hR11.1
      refine lv_aload_n hx hb dX5_moveSpan_67 rfl (lv_at hl 3 rfl) ?_
      obtain ⟨o2, ho2, hk2⟩ := put_kind (o9b := o_setf o9 (va_cpy (o_f o) (o_f o9) i' j' n')) ho ho9 rfl
      obtain ⟨dk2, kd2, r1, -⟩ := hR11.2.2.2.1 h o2 ho2
      rw [o_num (o := o2) (by omega)] at r1
      refine r_inst S9 w11 r1 (by decide) 1 (by decide) (by decide +kernel) (v := 0) rfl dX5_moveSpan_68 ?_
      refine lv_if_eq (tgt := 109) hx hb dX5_moveSpan_71 (by decide) (fun c_71 => ?_) (fun c_71 => absurd c_71 (by decide))
      refine lv_aload_n hx hb dX5_moveSpan_109 rfl (lv_at hl 2 rfl) ?_
      refine r_get (ref := "SpanMover") S9 w11 hx11 rfl (by decide +kernel) 5 (by decide) (by decide +kernel) (Or.inl rfl) rfl dX5_moveSpan_110 ?_
      refine lv_iload hx hb dX5_moveSpan_113 (lv_at hl 7 rfl) ?_
      refine lv_icmp_ne (tgt := 122) hx hb dX5_moveSpan_115 (by decide) (fun c_115 => absurd rfl c_115) (fun c_115 => ?_)
      refine lv_iconst (v := 0) hx hb dX5_moveSpan_118 (by decide) ?_
      refine lv_goto (tgt := 123) hx hb dX5_moveSpan_119 (by decide) ?_
      exact ew_i S9 hr hlk w11 (by rw [show mvR S h9 o o9 (nI i') (nI j') (nI n') = (0, nI n', _) from by unfold mvR; rw [if_neg (fun q => q s1), if_neg (fun q => q s2), if_pos hk9]]; exact ⟨rfl, by rw [y1, y2, y3]; exact hR11⟩) dX5_moveSpan_123 (by decide) (by decide)
    · refine lv_iconst (v := 4) hx hb dX5_moveSpan_21 (by decide) ?_
      exact ew_i S9 hr hlk w (by have s2 : ¬ inS (o_n o9) j n := (fun q => by rw [e8, if_pos q] at c_18; exact absurd c_18 (by decide)); rw [show mvR S h9 o o9 i j n = (4, 0, s_o S) from by unfold mvR; by_cases s1 : inS (o_n o) i n; (rw [if_neg (fun q => q s1), if_pos s2]); (rw [if_pos s1])]; exact ⟨rfl, by rw [upd_same hz]; exact hR⟩) dX5_moveSpan_22 (by decide) (by decide)

set_option maxHeartbeats 4000000 in
set_option maxRecDepth 100000 in
theorem c_moveSpan_O (l : Launch) {G : Gt} {ws : va_W} (sz : Nat) {x sh li : Nat} {ad ar : Nat → Nat} {S : St} (hR : RpX G x sh li ad ar S ws) (hI : Inv S) {h : Nat} {o : Ob} (ho : s_o S h = some o) {h9 : Nat} {o9 : Ob} (ho9 : s_o S h9 = some o9) (hk : 4 ≤ o_k o) (hm : o_k o ≤ 6) (hk9 : 4 ≤ o_k o9) (hm9 : o_k o9 ≤ 6) (hz : s_c S 3 = 0) (i j n : Int32) : Met l yX5_moveSpan wsX5_moveSpan ({ frames := 2, cells := 0, slots := 0, locals := 65 } : Room) (Pw G [.ref x, .ref (ad h), .int i, .ref (ad h9), .int j, .int n] ws sz) (va_Qi (fun (r : Int32) (u : va_W) => r = (mvR S h9 o o9 i j n).1 ∧ RpX G x sh li ad ar (s_u S, (mvR S h9 o o9 i j n).2.2, s_s S, s_l S, upd (s_c S) 3 (mvR S h9 o o9 i j n).2.1) u) (Bw G ws sz) (va_A ws sz)) 0 0 (va_A ws sz) := by
  refine Met_pw (cc := cX5_moveSpan) (maxL := 8) (ret := (some .int)) (by decide) rfl (Nat.le_of_ble_eq_true rfl) ?_
  intro p e s m below meth c ls hsz S9 hr hlk hnm w hl
  subst hsz
  replace S9 : CallFix p m c cX5_moveSpan 8 s _ wsX5_moveSpan RX5 := S9
  have hx := S9.1
  have hb := S9.2.1
  have hown := S9.2.2.2.1
  have hts := S9.2.2.2.2
  replace hl : lv_has ls 8 [(0, .ref x), (1, .ref (ad h)), (2, .int i), (3, .ref (ad h9)), (4, .int j), (5, .int n)] := hl
  obtain ⟨dk, kd, q1, q2, q3, q4⟩ := hR.2.2.2.1 h o ho
  obtain ⟨dk9, kd9, p1, p2, p3, p4⟩ := hR.2.2.2.1 h9 o9 ho9
  rw [o_obj hk hm] at q1
  rw [o_obj hk9 hm9] at p1
  have n0 := (hI.ob ho).2
  have n9 := (hI.ob ho9).2
  refine lv_aload_n hx hb dX5_moveSpan_0 rfl (lv_at hl 1 rfl) ?_
  refine lv_iload_n hx hb dX5_moveSpan_1 rfl (lv_at hl 2 rfl) ?_
  refine lv_iload hx hb dX5_moveSpan_2 (lv_at hl 5 rfl) ?_
  refine k_ui S9 w (c_hasSpan_1 l _ q1 (by omega) i n) q1 rfl (va_cwU 2 hts gX5_moveSpan_X3_hasSpan_u152X2 rfl rfl rfl rfl (by decide +kernel) ⟨Nat.le_of_ble_eq_true rfl, Nat.le_of_ble_eq_true rfl⟩) rfl hl.1 rfl (Nat.le_of_ble_eq_true rfl) dX5_moveSpan_4 ⟨Nat.le_of_ble_eq_true rfl, Nat.le_of_ble_eq_true rfl⟩ (fun v7 e7 => ?_)
  refine lv_if_eq (tgt := 21) hx hb dX5_moveSpan_7 (by decide) (fun c_7 => ?_) (fun c_7 => ?_)
  · refine lv_iconst (v := 4) hx hb dX5_moveSpan_21 (by decide) ?_
    exact ew_i S9 hr hlk w (by have s1 : ¬ inS (o_n o) i n := (fun q => by rw [e7, if_pos q] at c_7; exact absurd c_7 (by decide)); rw [show mvR S h9 o o9 i j n = (4, 0, s_o S) from by unfold mvR; rw [if_pos s1]]; exact ⟨rfl, by rw [upd_same hz]; exact hR⟩) dX5_moveSpan_22 (by decide) (by decide)
  · refine lv_aload_n hx hb dX5_moveSpan_10 rfl (lv_at hl 3 rfl) ?_
    refine lv_iload hx hb dX5_moveSpan_11 (lv_at hl 4 rfl) ?_
    refine lv_iload hx hb dX5_moveSpan_13 (lv_at hl 5 rfl) ?_
    refine k_ui S9 w (c_hasSpan_1 l _ p1 (by omega) j n) p1 rfl (va_cwU 2 hts gX5_moveSpan_X3_hasSpan_u152X2 rfl rfl rfl rfl (by decide +kernel) ⟨Nat.le_of_ble_eq_true rfl, Nat.le_of_ble_eq_true rfl⟩) rfl hl.1 rfl (Nat.le_of_ble_eq_true rfl) dX5_moveSpan_15 ⟨Nat.le_of_ble_eq_true rfl, Nat.le_of_ble_eq_true rfl⟩ (fun v8 e8 => ?_)
    refine lv_if_ne (tgt := 23) hx hb dX5_moveSpan_18 (by decide) (fun c_18 => ?_) (fun c_18 => ?_)
    · have s1 : inS (o_n o) i n := by
        rw [e7] at c_7
        by_cases q : inS (o_n o) i n
        · exact q
        · rw [if_neg q] at c_7; exact absurd rfl c_7
      have s2 : inS (o_n o9) j n := by
        rw [e8] at c_18
        by_cases q : inS (o_n o9) j n
        · exact q
        · rw [if_neg q] at c_18; exact absurd rfl c_18
      obtain ⟨i', n', rfl, rfl, b0⟩ := inS_nI s1 n0
      obtain ⟨j', n2, rfl, e2, b9⟩ := inS_nI s2 n9
      have e2 := (nI_eq (by omega) (by omega)).mp e2
      subst e2
      have y1 : (nI i').toNatClampNeg = i' := nI_clamp (by omega)
      have y2 : (nI j').toNatClampNeg = j' := nI_clamp (by omega)
      have y3 : (nI n').toNatClampNeg = n' := nI_clamp (by omega)
      refine lv_aload_n hx hb dX5_moveSpan_23 rfl (lv_at hl 1 rfl) ?_
      refine r_inst S9 w q1 (by decide) 0 (by decide) (by decide +kernel) (v := 0) rfl dX5_moveSpan_24 ?_
      refine lv_if_eq (tgt := 67) hx hb dX5_moveSpan_27 (by decide) (fun c_27 => ?_) (fun c_27 => absurd c_27 (by decide))
      refine lv_aload_n hx hb dX5_moveSpan_67 rfl (lv_at hl 1 rfl) ?_
      refine r_inst S9 w q1 (by decide) 1 (by decide) (by decide +kernel) (v := 1) rfl dX5_moveSpan_68 ?_
      refine lv_if_eq (tgt := 109) hx hb dX5_moveSpan_71 (by decide) (fun c_71 => absurd c_71 (by decide)) (fun c_71 => ?_)
      refine lv_aload_n hx hb dX5_moveSpan_74 rfl (lv_at hl 1 rfl) ?_
      refine r_cast S9 w q1 (by decide) 1 (by decide) rfl (by decide +kernel) dX5_moveSpan_75 ?_
      refine lv_astore (lv' := [(6, .ref (ad h)), (0, .ref x), (1, .ref (ad h)), (2, .int (nI i')), (3, .ref (ad h9)), (4, .int (nI j')), (5, .int (nI n'))]) hx hb dX5_moveSpan_78 hl (by decide) rfl (fun ls hl => ?_)
      refine lv_aload_n hx hb dX5_moveSpan_80 rfl (lv_at hl 4 rfl) ?_
      refine r_inst S9 w p1 (by decide) 1 (by decide) (by decide +kernel) (v := 1) rfl dX5_moveSpan_81 ?_
      refine lv_if_eq (tgt := 109) hx hb dX5_moveSpan_84 (by decide) (fun c_84 => absurd c_84 (by decide)) (fun c_84 => ?_)
      refine lv_aload_n hx hb dX5_moveSpan_87 rfl (lv_at hl 4 rfl) ?_
      refine r_cast S9 w p1 (by decide) 1 (by decide) rfl (by decide +kernel) dX5_moveSpan_88 ?_
      refine lv_astore (lv' := [(7, .ref (ad h9)), (6, .ref (ad h)), (0, .ref x), (1, .ref (ad h)), (2, .int (nI i')), (3, .ref (ad h9)), (4, .int (nI j')), (5, .int (nI n'))]) hx hb dX5_moveSpan_91 hl (by decide) rfl (fun ls hl => ?_)
      refine lv_aload_n hx hb dX5_moveSpan_93 rfl (lv_at hl 2 rfl) ?_
      refine lv_aload hx hb dX5_moveSpan_94 (lv_at hl 0 rfl) ?_
      refine lv_iload hx hb dX5_moveSpan_96 (lv_at hl 6 rfl) ?_
      refine lv_aload hx hb dX5_moveSpan_98 (lv_at hl 1 rfl) ?_
      refine lv_iload_n hx hb dX5_moveSpan_100 rfl (lv_at hl 4 rfl) ?_
      refine lv_iload hx hb dX5_moveSpan_101 (lv_at hl 7 rfl) ?_
      refine kw_vi S9 w (c_takeFittingSpan l _ hR hI ho9 ho hk9 hm9 hk hm j' i' n' b0 b9) p1 rfl (cwV 4 hts gX5_moveSpan_X2_takeFittingSpan rfl rfl rfl (by decide +kernel) ⟨Nat.le_of_ble_eq_true rfl, Nat.le_of_ble_eq_true rfl⟩) rfl hl.1 rfl (Nat.le_of_ble_eq_true rfl) dX5_moveSpan_103 ⟨Nat.le_of_ble_eq_true rfl, Nat.le_of_ble_eq_true rfl⟩ (fun v12 u8 H8 lc8 p8 w8 => ?_)
      have hR7 := RpX.els (f := va_cpy (o_e o) (o_e o9) i' j' (fitN S (o_k o9) (o_e o) n' i')) w.2.1 hR ho9 hk9 hm9 p8.2 (by rw [map_cpy])
      replace hR7 : RpX G x sh li ad ar (s_u S, va_up (s_o S) h9 (some (o_sete o9 (va_cpy (o_e o) (o_e o9) i' j' (fitN S (o_k o9) (o_e o) n' i')))), s_s S, s_l S, s_c S) u8 := hR7
      refine r_put (ref := "SpanMover") S9 w8 hR7.1 rfl (by decide +kernel) tyX5_ok nmX5 5 (by decide) (by decide +kernel) (Or.inl rfl) rfl rfl rfl (Nat.le_of_ble_eq_true rfl) dX5_moveSpan_106 (fun ws11 H11 lc11 u11 w11 => ?_)
      have hR11 := RpX.sc w8.2.1 hR7 u11 (oX_set sh li (s_c S) 3 (by decide) v12)
      replace hR11 : RpX G x sh li ad ar (s_u S, va_up (s_o S) h9 (some (o_sete o9 (va_cpy (o_e o) (o_e o9) i' j' (fitN S (o_k o9) (o_e o) n' i')))), s_s S, s_l S, upd (s_c S) 3 v12) ws11 := hR11
      have hx11 : hp ws11 x (.inr (3, [.ref sh, .ref li, .int (s_c S 0), .int (s_c S 1), .int (s_c S 2), .int v12, .int (s_c S 4), .int (s_c S 5), .int (s_c S 6)])) := hR11.1
      refine lv_aload_n hx hb dX5_moveSpan_109 rfl (lv_at hl 2 rfl) ?_
      refine r_get (ref := "SpanMover") S9 w11 hx11 rfl (by decide +kernel) 5 (by decide) (by decide +kernel) (Or.inl rfl) rfl dX5_moveSpan_110 ?_
      refine lv_iload hx hb dX5_moveSpan_113 (lv_at hl 7 rfl) ?_
      refine lv_icmp_ne (tgt := 122) hx hb dX5_moveSpan_115 (by decide) (fun c_115 => ?_) (fun c_115 => ?_)
      · refine lv_iconst (v := 5) hx hb dX5_moveSpan_122 (by decide) ?_
        exact ew_i S9 hr hlk w11 (by have hc : (¬ fitN S (o_k o9) (o_e o) n' i' = n') := (by intro q; rw [p8.1, q] at c_115; exact c_115 rfl); rw [show mvR S h9 o o9 (nI i') (nI j') (nI n') = (5, v12, _) from by unfold mvR; rw [if_neg (fun q => q s1), if_neg (fun q => q s2), if_neg (by omega), y1, y2, y3, if_neg hc, ← p8.1]]; exact ⟨rfl, hR11⟩) dX5_moveSpan_123 (by decide) (by decide)
      · refine lv_iconst (v := 0) hx hb dX5_moveSpan_118 (by decide) ?_
        refine lv_goto (tgt := 123) hx hb dX5_moveSpan_119 (by decide) ?_
        exact ew_i S9 hr hlk w11 (by have hc : (fitN S (o_k o9) (o_e o) n' i' = n') := (by rw [p8.1] at c_115; exact (nI_eq (by have := fitN_le (S := S) (k := o_k o9) (e := o_e o) (n := n') (i := i'); omega) (by omega)).mp c_115); rw [show mvR S h9 o o9 (nI i') (nI j') (nI n') = (0, v12, _) from by unfold mvR; rw [if_neg (fun q => q s1), if_neg (fun q => q s2), if_neg (by omega), y1, y2, y3, if_pos hc, ← p8.1]]; exact ⟨rfl, hR11⟩) dX5_moveSpan_123 (by decide) (by decide)
    · refine lv_iconst (v := 4) hx hb dX5_moveSpan_21 (by decide) ?_
      exact ew_i S9 hr hlk w (by have s2 : ¬ inS (o_n o9) j n := (fun q => by rw [e8, if_pos q] at c_18; exact absurd c_18 (by decide)); rw [show mvR S h9 o o9 i j n = (4, 0, s_o S) from by unfold mvR; by_cases s1 : inS (o_n o) i n; (rw [if_neg (fun q => q s1), if_pos s2]); (rw [if_pos s1])]; exact ⟨rfl, by rw [upd_same hz]; exact hR⟩) dX5_moveSpan_22 (by decide) (by decide)
end
section
theorem ref3_some {S : St} (hI : Inv S) {a b : Int32} (h : ref3 (obj S (itm S a)) (obj S (itm S b)) = 0) : ∃ (x : Nat) (o : Ob) (y : Nat) (o' : Ob), itm S a = some x ∧ itm S b = some y ∧ s_o S x = some o ∧ s_o S y = some o' ∧ ref3 (some o) (some o') = 0 := by
  cases ha : itm S a with
  | none => rw [ha] at h; simp [obj, ref3] at h
  | some x =>
    cases hb : itm S b with
    | none => rw [ha, hb] at h; simp [obj, ref3] at h
    | some y =>
      obtain ⟨o, ho⟩ := itm_o hI ha
      obtain ⟨o', ho'⟩ := itm_o hI hb
      rw [obj_some ha ho, obj_some hb ho'] at h
      exact ⟨x, o, y, o', rfl, rfl, ho, ho', h⟩
theorem fitN_sc {S S' : St} (h : s_o S' = s_o S) {k : Nat} {e : Nat → Option Nat} : ∀ {n i : Nat}, fitN S' k e n i = fitN S k e n i
  | 0, i => rfl
  | n + 1, i => by
    have h1 : fitE S' k (e i) = fitE S k (e i) := by
      unfold fitE obj
      rw [h]
    rw [fitN, fitN, h1, fitN_sc h]
theorem mvR_sc {S S' : St} (h : s_o S' = s_o S) {h9 : Nat} {o o9 : Ob} {i j n : Int32} : mvR S' h9 o o9 i j n = mvR S h9 o o9 i j n := by
  unfold mvR
  rw [h, fitN_sc h]
theorem mvc_0 (c : Nat → Int32) (r m : Int32) : mvc c r m 0 = c 0 := by
  unfold mvc
  split <;> rfl
theorem runF_go {S : St} {P k : Nat} (hk : k < P) (h : (sp_move S (s_l S (k * 5)) (s_l S (k * 5 + 1)) (s_l S (k * 5 + 2)) (s_l S (k * 5 + 3)) (s_l S (k * 5 + 4))).1 = 0) : runF (P - k) k S = runF (P - (k + 1)) (k + 1) (sp_move S (s_l S (k * 5)) (s_l S (k * 5 + 1)) (s_l S (k * 5 + 2)) (s_l S (k * 5 + 3)) (s_l S (k * 5 + 4))).2 := by
  obtain ⟨m, hm⟩ : ∃ m, P - k = m + 1 := ⟨P - k - 1, by omega⟩
  have hm' : P - (k + 1) = m := by omega
  rw [hm, hm', runF, if_pos h]
theorem runF_stop {S : St} {P k : Nat} (hk : k < P) (h : ¬ (sp_move S (s_l S (k * 5)) (s_l S (k * 5 + 1)) (s_l S (k * 5 + 2)) (s_l S (k * 5 + 3)) (s_l S (k * 5 + 4))).1 = 0) : runF (P - k) k S = (k, (sp_move S (s_l S (k * 5)) (s_l S (k * 5 + 1)) (s_l S (k * 5 + 2)) (s_l S (k * 5 + 3)) (s_l S (k * 5 + 4))).2) := by
  obtain ⟨m, hm⟩ : ∃ m, P - k = m + 1 := ⟨P - k - 1, by omega⟩
  rw [hm, runF, if_neg h]
set_option maxHeartbeats 4000000 in
set_option maxRecDepth 100000 in
theorem c_doMove (l : Launch) {G : Gt} {ws : va_W} (sz : Nat) {x sh li : Nat} {ad ar : Nat → Nat} {S : St} (hR : RpX G x sh li ad ar S ws) (hI : Inv S) (a i b j n : Int32) : Met l yX5_doMove wsX5_doMove ({ frames := 3, cells := 0, slots := 0, locals := 92 } : Room) (Pw G [.ref x, .int a, .int i, .int b, .int j, .int n] ws sz) (va_Qi (fun (r : Int32) (u : va_W) => r = (sp_move S a i b j n).1 ∧ ∃ ad2 ar2, RpX G x sh li ad2 ar2 (sp_move S a i b j n).2 u) (Bw G ws sz) (va_A ws sz)) 0 0 (va_A ws sz) := by
  refine Met_pw (cc := cX5_doMove) (maxL := 10) (ret := (some .int)) (by decide) rfl (Nat.le_of_ble_eq_true rfl) ?_
  intro p e s m below meth c ls hsz S9 hr hlk hnm w hl
  subst hsz
  replace S9 : CallFix p m c cX5_doMove 10 s _ wsX5_doMove RX5 := S9
  have hx := S9.1
  have hb := S9.2.1
  have hown := S9.2.2.2.1
  have hts := S9.2.2.2.2
  replace hl : lv_has ls 10 [(0, .ref x), (1, .int a), (2, .int i), (3, .int b), (4, .int j), (5, .int n)] := hl
  refine lv_aload_n hx hb dX5_doMove_0 rfl (lv_at hl 0 rfl) ?_
  refine lv_iload_n hx hb dX5_doMove_1 rfl (lv_at hl 1 rfl) ?_
  refine k_vq S9 w (c_itemAt l _ hR a) hR.1 rfl (cwV 1 hts gX5_doMove_X5_itemAt rfl rfl rfl (by decide +kernel) ⟨Nat.le_of_ble_eq_true rfl, Nat.le_of_ble_eq_true rfl⟩) rfl hl.1 rfl (Nat.le_of_ble_eq_true rfl) dX5_doMove_2 ⟨Nat.le_of_ble_eq_true rfl, Nat.le_of_ble_eq_true rfl⟩ (fun r9 e9 => ?_)
  subst e9
  refine lq_astore (lv' := [(6, va_rf ((itm S a).map ad)), (0, .ref x), (1, .int a), (2, .int i), (3, .int b), (4, .int j), (5, .int n)]) hx hb dX5_doMove_5 hl (by decide) rfl (fun ls hl => ?_)
  refine lv_aload_n hx hb dX5_doMove_7 rfl (lv_at hl 1 rfl) ?_
  refine lv_iload_n hx hb dX5_doMove_8 rfl (lv_at hl 4 rfl) ?_
  refine k_vq S9 w (c_itemAt l _ hR b) hR.1 rfl (cwV 1 hts gX5_doMove_X5_itemAt rfl rfl rfl (by decide +kernel) ⟨Nat.le_of_ble_eq_true rfl, Nat.le_of_ble_eq_true rfl⟩) rfl hl.1 rfl (Nat.le_of_ble_eq_true rfl) dX5_doMove_9 ⟨Nat.le_of_ble_eq_true rfl, Nat.le_of_ble_eq_true rfl⟩ (fun r9 e9 => ?_)
  subst e9
  refine lq_astore (lv' := [(7, va_rf ((itm S b).map ad)), (6, va_rf ((itm S a).map ad)), (0, .ref x), (1, .int a), (2, .int i), (3, .int b), (4, .int j), (5, .int n)]) hx hb dX5_doMove_12 hl (by decide) (by simp [List.filter, va_rf_cat]) (fun ls hl => ?_)
  refine lv_aload_n hx hb dX5_doMove_14 rfl (lv_at hl 2 rfl) ?_
  refine lv_iconst (v := 0) hx hb dX5_doMove_15 (by decide) ?_
  refine r_put (ref := "SpanMover") S9 w hR.1 rfl (by decide +kernel) tyX5_ok nmX5 5 (by decide) (by decide +kernel) (Or.inl rfl) rfl rfl rfl (Nat.le_of_ble_eq_true rfl) dX5_doMove_16 (fun ws8 H8 lc8 u8 w8 => ?_)
  have hR8 := RpX.sc w.2.1 hR u8 (oX_set sh li (s_c S) 3 (by decide) 0)
  replace hR8 : RpX G x sh li ad ar (s_u S, s_o S, s_s S, s_l S, upd (s_c S) 3 0) ws8 := hR8
  have hx8 : hp ws8 x (.inr (3, [.ref sh, .ref li, .int (s_c S 0), .int (s_c S 1), .int (s_c S 2), .int (0 : Int32), .int (s_c S 4), .int (s_c S 5), .int (s_c S 6)])) := hR8.1
  refine lv_aload_n hx hb dX5_doMove_19 rfl (lv_at hl 2 rfl) ?_
  refine lq_aload hx hb dX5_doMove_20 (lv_at hl 1 rfl) ?_
  refine lq_aload hx hb dX5_doMove_22 (lv_at hl 0 rfl) ?_
  refine k_si S9 w8 (u_refusalOfRows l _ hR8 (hI.sc _ rfl rfl) (itm S a) (itm S b) (hI.it a) (hI.it b)) (va_cwS 2 hts gX5_doMove_X5_refusalOfRows rfl rfl rfl (by decide +kernel) ⟨Nat.le_of_ble_eq_true rfl, Nat.le_of_ble_eq_true rfl⟩) rfl hl.1 rfl (Nat.le_of_ble_eq_true rfl) dX5_doMove_24 ⟨Nat.le_of_ble_eq_true rfl, Nat.le_of_ble_eq_true rfl⟩ (fun v7 e7 => ?_)
  replace e7 : v7 = ref3 (obj S (itm S a)) (obj S (itm S b)) := e7
  refine r_put (ref := "SpanMover") S9 w8 hR8.1 rfl (by decide +kernel) tyX5_ok nmX5 6 (by decide) (by decide +kernel) (Or.inl rfl) rfl rfl rfl (Nat.le_of_ble_eq_true rfl) dX5_doMove_27 (fun ws9 H9 lc9 u9 w9 => ?_)
  have hR9 := RpX.sc w8.2.1 hR8 u9 (oX_set sh li (upd (s_c S) 3 0) 4 (by decide) v7)
  replace hR9 : RpX G x sh li ad ar (s_u S, s_o S, s_s S, s_l S, upd (upd (s_c S) 3 0) 4 v7) ws9 := hR9
  have hx9 : hp ws9 x (.inr (3, [.ref sh, .ref li, .int (s_c S 0), .int (s_c S 1), .int (s_c S 2), .int (0 : Int32), .int v7, .int (s_c S 5), .int (s_c S 6)])) := hR9.1
  refine lv_aload_n hx hb dX5_doMove_30 rfl (lv_at hl 2 rfl) ?_
  refine r_get (ref := "SpanMover") S9 w9 hx9 rfl (by decide +kernel) 6 (by decide) (by decide +kernel) (Or.inl rfl) rfl dX5_doMove_31 ?_
  refine lv_if_ne (tgt := 84) hx hb dX5_doMove_34 (by decide) (fun c_34 => ?_) (fun c_34 => ?_)
  · refine lv_aload_n hx hb dX5_doMove_84 rfl (lv_at hl 2 rfl) ?_
    refine r_get (ref := "SpanMover") S9 w9 hx9 rfl (by decide +kernel) 6 (by decide) (by decide +kernel) (Or.inl rfl) rfl dX5_doMove_85 ?_
    refine lv_if_ne (tgt := 104) hx hb dX5_doMove_88 (by decide) (fun c_88 => ?_) (fun c_88 => absurd c_88 c_34)
    refine lv_aload_n hx hb dX5_doMove_104 rfl (lv_at hl 2 rfl) ?_
    refine lv_dup hx hb dX5_doMove_105 rfl ?_
    refine r_get (ref := "SpanMover") S9 w9 hx9 rfl (by decide +kernel) 8 (by decide) (by decide +kernel) (Or.inl rfl) rfl dX5_doMove_106 ?_
    refine lv_iconst (v := 1) hx hb dX5_doMove_109 (by decide) ?_
    refine lv_iadd hx hb dX5_doMove_110 ?_
    refine lv_topi (fun v1 ev1 => ?_)
    refine r_put (ref := "SpanMover") S9 w9 hR9.1 rfl (by decide +kernel) tyX5_ok nmX5 8 (by decide) (by decide +kernel) (Or.inl rfl) rfl rfl rfl (Nat.le_of_ble_eq_true rfl) dX5_doMove_111 (fun ws10 H10 lc10 u10 w10 => ?_)
    have hR10 := RpX.sc w9.2.1 hR9 u10 (oX_set sh li (upd (upd (s_c S) 3 0) 4 v7) 6 (by decide) v1)
    replace hR10 : RpX G x sh li ad ar (s_u S, s_o S, s_s S, s_l S, upd (upd (upd (s_c S) 3 0) 4 v7) 6 v1) ws10 := hR10
    have hx10 : hp ws10 x (.inr (3, [.ref sh, .ref li, .int (s_c S 0), .int (s_c S 1), .int (s_c S 2), .int (0 : Int32), .int v7, .int (s_c S 5), .int v1])) := hR10.1
    refine lv_aload_n hx hb dX5_doMove_114 rfl (lv_at hl 2 rfl) ?_
    refine r_get (ref := "SpanMover") S9 w10 hx10 rfl (by decide +kernel) 6 (by decide) (by decide +kernel) (Or.inl rfl) rfl dX5_doMove_115 ?_
    exact ew_i S9 hr hlk w10 (by have hM := mv_no (S := S) (a := a) (i := i) (b := b) (j := j) (n := n) (by rw [← e7]; exact c_34) hI; rw [← e7] at hM; rw [show sp_move S a i b j n = (v7, (s_u S, s_o S, s_s S, s_l S, upd (upd (upd (s_c S) 3 0) 4 v7) 6 v1)) from by simp only [sp_move, hM, mvc, if_neg c_34, ev1]]; exact ⟨rfl, ad, ar, hR10⟩) dX5_doMove_118 (by decide) (by decide)
  · obtain ⟨h, o, h9, o9, ia, ib, ho, ho9, h3⟩ := ref3_some hI (e7.symm.trans c_34)
    rw [ia, ib] at hl
    obtain ⟨k6, k9, hkk⟩ := ref3_zero h3
    have hM := mv_ok (i := i) (j := j) (n := n) ia ib ho ho9 h3
    obtain ⟨dk, kd, q1, q2, q3, q4⟩ := hR9.2.2.2.1 h o ho
    obtain ⟨dk9, kd9, p1, p2, p3, p4⟩ := hR9.2.2.2.1 h9 o9 ho9
    replace hl : lv_has ls 10 [(7, .ref (ad h9)), (6, .ref (ad h)), (0, .ref x), (1, .int a), (2, .int i), (3, .int b), (4, .int j), (5, .int n)] := hl
    rcases (show (o_k o ≤ 3 ∧ o_k o9 ≤ 3) ∨ (4 ≤ o_k o ∧ 4 ≤ o_k o9) by omega) with ⟨hk, hk9⟩ | ⟨hk, hk9⟩
    · rw [o_num hk] at q1
      rw [o_num hk9] at p1
      refine lv_aload hx hb dX5_doMove_37 (lv_at hl 1 rfl) ?_
      refine r_inst S9 w9 q1 (by decide) 3 (by decide) (by decide +kernel) (v := 1) rfl dX5_doMove_39 ?_
      refine lv_if_eq (tgt := 84) hx hb dX5_doMove_42 (by decide) (fun c_42 => absurd c_42 (by decide)) (fun c_42 => ?_)
      refine lv_aload hx hb dX5_doMove_45 (lv_at hl 1 rfl) ?_
      refine r_cast S9 w9 q1 (by decide) 3 (by decide) rfl (by decide +kernel) dX5_doMove_47 ?_
      refine lv_astore (lv' := [(8, .ref (ad h)), (7, .ref (ad h9)), (6, .ref (ad h)), (0, .ref x), (1, .int a), (2, .int i), (3, .int b), (4, .int j), (5, .int n)]) hx hb dX5_doMove_50 hl (by decide) rfl (fun ls hl => ?_)
      refine lv_aload hx hb dX5_doMove_52 (lv_at hl 1 rfl) ?_
      refine r_inst S9 w9 p1 (by decide) 3 (by decide) (by decide +kernel) (v := 1) rfl dX5_doMove_54 ?_
      refine lv_if_eq (tgt := 84) hx hb dX5_doMove_57 (by decide) (fun c_57 => absurd c_57 (by decide)) (fun c_57 => ?_)
      refine lv_aload hx hb dX5_doMove_60 (lv_at hl 1 rfl) ?_
      refine r_cast S9 w9 p1 (by decide) 3 (by decide) rfl (by decide +kernel) dX5_doMove_62 ?_
      refine lv_astore (lv' := [(9, .ref (ad h9)), (8, .ref (ad h)), (7, .ref (ad h9)), (6, .ref (ad h)), (0, .ref x), (1, .int a), (2, .int i), (3, .int b), (4, .int j), (5, .int n)]) hx hb dX5_doMove_65 hl (by decide) rfl (fun ls hl => ?_)
      refine lv_aload_n hx hb dX5_doMove_67 rfl (lv_at hl 4 rfl) ?_
      refine lv_aload_n hx hb dX5_doMove_68 rfl (lv_at hl 4 rfl) ?_
      refine lv_aload hx hb dX5_doMove_69 (lv_at hl 1 rfl) ?_
      refine lv_iload_n hx hb dX5_doMove_71 rfl (lv_at hl 6 rfl) ?_
      refine lv_aload hx hb dX5_doMove_72 (lv_at hl 0 rfl) ?_
      refine lv_iload hx hb dX5_doMove_74 (lv_at hl 8 rfl) ?_
      refine lv_iload hx hb dX5_doMove_76 (lv_at hl 9 rfl) ?_
      refine kw_vi S9 w9 (c_moveSpan_N l _ hR9 (hI.sc _ rfl rfl) ho ho9 hk hk9 rfl i j n) hx9 rfl (cwV 5 hts gX5_doMove_X5_moveSpan rfl rfl rfl (by decide +kernel) ⟨Nat.le_of_ble_eq_true rfl, Nat.le_of_ble_eq_true rfl⟩) rfl hl.1 rfl (Nat.le_of_ble_eq_true rfl) dX5_doMove_78 ⟨Nat.le_of_ble_eq_true rfl, Nat.le_of_ble_eq_true rfl⟩ (fun v12 u12 H12 lc12 p12 w12 => ?_)
      rw [mvR_sc (S := S) (S' := (s_u S, s_o S, s_s S, s_l S, upd (upd (s_c S) 3 0) 4 v7)) rfl] at p12
      replace p12 : v12 = (mvR S h9 o o9 i j n).1 ∧ RpX G x sh li ad ar (s_u S, (mvR S h9 o o9 i j n).2.2, s_s S, s_l S, upd (upd (upd (s_c S) 3 0) 4 v7) 3 (mvR S h9 o o9 i j n).2.1) u12 := p12
      obtain ⟨e12, hR12⟩ := p12
      refine r_put (ref := "SpanMover") S9 w12 hR12.1 rfl (by decide +kernel) tyX5_ok nmX5 6 (by decide) (by decide +kernel) (Or.inl rfl) rfl rfl rfl (Nat.le_of_ble_eq_true rfl) dX5_doMove_81 (fun ws21 H21 lc21 u21 w21 => ?_)
      have hR21 := RpX.sc w12.2.1 hR12 u21 (oX_set sh li (upd (upd (upd (s_c S) 3 0) 4 v7) 3 (mvR S h9 o o9 i j n).2.1) 4 (by decide) v12)
      replace hR21 : RpX G x sh li ad ar (s_u S, (mvR S h9 o o9 i j n).2.2, s_s S, s_l S, upd (upd (upd (upd (s_c S) 3 0) 4 v7) 3 (mvR S h9 o o9 i j n).2.1) 4 v12) ws21 := hR21
      have hx21 : hp ws21 x (.inr (3, [.ref sh, .ref li, .int (s_c S 0), .int (s_c S 1), .int (s_c S 2), .int ((mvR S h9 o o9 i j n).2.1), .int v12, .int (s_c S 5), .int (s_c S 6)])) := hR21.1
      refine lv_aload_n hx hb dX5_doMove_84 rfl (lv_at hl 4 rfl) ?_
      refine r_get (ref := "SpanMover") S9 w21 hx21 rfl (by decide +kernel) 6 (by decide) (by decide +kernel) (Or.inl rfl) rfl dX5_doMove_85 ?_
      refine lv_if_ne (tgt := 104) hx hb dX5_doMove_88 (by decide) (fun c_88 => ?_) (fun c_88 => ?_)
      · refine lv_aload_n hx hb dX5_doMove_104 rfl (lv_at hl 4 rfl) ?_
        refine lv_dup hx hb dX5_doMove_105 rfl ?_
        refine r_get (ref := "SpanMover") S9 w21 hx21 rfl (by decide +kernel) 8 (by decide) (by decide +kernel) (Or.inl rfl) rfl dX5_doMove_106 ?_
        refine lv_iconst (v := 1) hx hb dX5_doMove_109 (by decide) ?_
        refine lv_iadd hx hb dX5_doMove_110 ?_
        refine lv_topi (fun v2 ev2 => ?_)
        refine r_put (ref := "SpanMover") S9 w21 hR21.1 rfl (by decide +kernel) tyX5_ok nmX5 8 (by decide) (by decide +kernel) (Or.inl rfl) rfl rfl rfl (Nat.le_of_ble_eq_true rfl) dX5_doMove_111 (fun ws22 H22 lc22 u22 w22 => ?_)
        have hR22 := RpX.sc w21.2.1 hR21 u22 (oX_set sh li (upd (upd (upd (upd (s_c S) 3 0) 4 v7) 3 (mvR S h9 o o9 i j n).2.1) 4 v12) 6 (by decide) v2)
        replace hR22 : RpX G x sh li ad ar (s_u S, (mvR S h9 o o9 i j n).2.2, s_s S, s_l S, upd (upd (upd (upd (upd (s_c S) 3 0) 4 v7) 3 (mvR S h9 o o9 i j n).2.1) 4 v12) 6 v2) ws22 := hR22
        have hx22 : hp ws22 x (.inr (3, [.ref sh, .ref li, .int (s_c S 0), .int (s_c S 1), .int (s_c S 2), .int ((mvR S h9 o o9 i j n).2.1), .int v12, .int (s_c S 5), .int v2])) := hR22.1
        refine lv_aload_n hx hb dX5_doMove_114 rfl (lv_at hl 4 rfl) ?_
        refine r_get (ref := "SpanMover") S9 w22 hx22 rfl (by decide +kernel) 6 (by decide) (by decide +kernel) (Or.inl rfl) rfl dX5_doMove_115 ?_
        exact ew_i S9 hr hlk w22 (by rw [show sp_move S a i b j n = (v12, (s_u S, (mvR S h9 o o9 i j n).2.2, s_s S, s_l S, upd (upd (upd (upd (upd (s_c S) 3 0) 4 v7) 3 (mvR S h9 o o9 i j n).2.1) 4 v12) 6 v2)) from by simp only [sp_move, hM, mvc, ← e12, if_neg c_88, ev2, upd_43]]; exact ⟨rfl, ad, ar, hR22⟩) dX5_doMove_118 (by decide) (by decide)
      · refine lv_aload_n hx hb dX5_doMove_91 rfl (lv_at hl 4 rfl) ?_
        refine lv_dup hx hb dX5_doMove_92 rfl ?_
        refine r_get (ref := "SpanMover") S9 w21 hx21 rfl (by decide +kernel) 7 (by decide) (by decide +kernel) (Or.inl rfl) rfl dX5_doMove_93 ?_
        refine lv_iconst (v := 1) hx hb dX5_doMove_96 (by decide) ?_
        refine lv_iadd hx hb dX5_doMove_97 ?_
        refine lv_topi (fun v3 ev3 => ?_)
        refine r_put (ref := "SpanMover") S9 w21 hR21.1 rfl (by decide +kernel) tyX5_ok nmX5 7 (by decide) (by decide +kernel) (Or.inl rfl) rfl rfl rfl (Nat.le_of_ble_eq_true rfl) dX5_doMove_98 (fun ws22 H22 lc22 u22 w22 => ?_)
        have hR22 := RpX.sc w21.2.1 hR21 u22 (oX_set sh li (upd (upd (upd (upd (s_c S) 3 0) 4 v7) 3 (mvR S h9 o o9 i j n).2.1) 4 v12) 5 (by decide) v3)
        replace hR22 : RpX G x sh li ad ar (s_u S, (mvR S h9 o o9 i j n).2.2, s_s S, s_l S, upd (upd (upd (upd (upd (s_c S) 3 0) 4 v7) 3 (mvR S h9 o o9 i j n).2.1) 4 v12) 5 v3) ws22 := hR22
        have hx22 : hp ws22 x (.inr (3, [.ref sh, .ref li, .int (s_c S 0), .int (s_c S 1), .int (s_c S 2), .int ((mvR S h9 o o9 i j n).2.1), .int v12, .int v3, .int (s_c S 6)])) := hR22.1
        refine lv_goto (tgt := 114) hx hb dX5_doMove_101 (by decide) ?_
        refine lv_aload_n hx hb dX5_doMove_114 rfl (lv_at hl 4 rfl) ?_
        refine r_get (ref := "SpanMover") S9 w22 hx22 rfl (by decide +kernel) 6 (by decide) (by decide +kernel) (Or.inl rfl) rfl dX5_doMove_115 ?_
        exact ew_i S9 hr hlk w22 (by rw [show sp_move S a i b j n = (v12, (s_u S, (mvR S h9 o o9 i j n).2.2, s_s S, s_l S, upd (upd (upd (upd (upd (s_c S) 3 0) 4 v7) 3 (mvR S h9 o o9 i j n).2.1) 4 v12) 5 v3)) from by simp only [sp_move, hM, mvc, ← e12, if_pos c_88, ev3, upd_43]]; exact ⟨rfl, ad, ar, hR22⟩) dX5_doMove_118 (by decide) (by decide)
    · rw [o_obj hk k6] at q1
      rw [o_obj hk9 k9] at p1
      refine lv_aload hx hb dX5_doMove_37 (lv_at hl 1 rfl) ?_
      refine r_inst S9 w9 q1 (by decide) 3 (by decide) (by decide +kernel) (v := 1) rfl dX5_doMove_39 ?_
      refine lv_if_eq (tgt := 84) hx hb dX5_doMove_42 (by decide) (fun c_42 => absurd c_42 (by decide)) (fun c_42 => ?_)
      refine lv_aload hx hb dX5_doMove_45 (lv_at hl 1 rfl) ?_
      refine r_cast S9 w9 q1 (by decide) 3 (by decide) rfl (by decide +kernel) dX5_doMove_47 ?_
      refine lv_astore (lv' := [(8, .ref (ad h)), (7, .ref (ad h9)), (6, .ref (ad h)), (0, .ref x), (1, .int a), (2, .int i), (3, .int b), (4, .int j), (5, .int n)]) hx hb dX5_doMove_50 hl (by decide) rfl (fun ls hl => ?_)
      refine lv_aload hx hb dX5_doMove_52 (lv_at hl 1 rfl) ?_
      refine r_inst S9 w9 p1 (by decide) 3 (by decide) (by decide +kernel) (v := 1) rfl dX5_doMove_54 ?_
      refine lv_if_eq (tgt := 84) hx hb dX5_doMove_57 (by decide) (fun c_57 => absurd c_57 (by decide)) (fun c_57 => ?_)
      refine lv_aload hx hb dX5_doMove_60 (lv_at hl 1 rfl) ?_
      refine r_cast S9 w9 p1 (by decide) 3 (by decide) rfl (by decide +kernel) dX5_doMove_62 ?_
      refine lv_astore (lv' := [(9, .ref (ad h9)), (8, .ref (ad h)), (7, .ref (ad h9)), (6, .ref (ad h)), (0, .ref x), (1, .int a), (2, .int i), (3, .int b), (4, .int j), (5, .int n)]) hx hb dX5_doMove_65 hl (by decide) rfl (fun ls hl => ?_)
      refine lv_aload_n hx hb dX5_doMove_67 rfl (lv_at hl 4 rfl) ?_
      refine lv_aload_n hx hb dX5_doMove_68 rfl (lv_at hl 4 rfl) ?_
      refine lv_aload hx hb dX5_doMove_69 (lv_at hl 1 rfl) ?_
      refine lv_iload_n hx hb dX5_doMove_71 rfl (lv_at hl 6 rfl) ?_
      refine lv_aload hx hb dX5_doMove_72 (lv_at hl 0 rfl) ?_
      refine lv_iload hx hb dX5_doMove_74 (lv_at hl 8 rfl) ?_
      refine lv_iload hx hb dX5_doMove_76 (lv_at hl 9 rfl) ?_
      refine kw_vi S9 w9 (c_moveSpan_O l _ hR9 (hI.sc _ rfl rfl) ho ho9 hk k6 hk9 k9 rfl i j n) hx9 rfl (cwV 5 hts gX5_doMove_X5_moveSpan rfl rfl rfl (by decide +kernel) ⟨Nat.le_of_ble_eq_true rfl, Nat.le_of_ble_eq_true rfl⟩) rfl hl.1 rfl (Nat.le_of_ble_eq_true rfl) dX5_doMove_78 ⟨Nat.le_of_ble_eq_true rfl, Nat.le_of_ble_eq_true rfl⟩ (fun v12 u12 H12 lc12 p12 w12 => ?_)
      rw [mvR_sc (S := S) (S' := (s_u S, s_o S, s_s S, s_l S, upd (upd (s_c S) 3 0) 4 v7)) rfl] at p12
      replace p12 : v12 = (mvR S h9 o o9 i j n).1 ∧ RpX G x sh li ad ar (s_u S, (mvR S h9 o o9 i j n).2.2, s_s S, s_l S, upd (upd (upd (s_c S) 3 0) 4 v7) 3 (mvR S h9 o o9 i j n).2.1) u12 := p12
      obtain ⟨e12, hR12⟩ := p12
      refine r_put (ref := "SpanMover") S9 w12 hR12.1 rfl (by decide +kernel) tyX5_ok nmX5 6 (by decide) (by decide +kernel) (Or.inl rfl) rfl rfl rfl (Nat.le_of_ble_eq_true rfl) dX5_doMove_81 (fun ws21 H21 lc21 u21 w21 => ?_)
      have hR21 := RpX.sc w12.2.1 hR12 u21 (oX_set sh li (upd (upd (upd (s_c S) 3 0) 4 v7) 3 (mvR S h9 o o9 i j n).2.1) 4 (by decide) v12)
      replace hR21 : RpX G x sh li ad ar (s_u S, (mvR S h9 o o9 i j n).2.2, s_s S, s_l S, upd (upd (upd (upd (s_c S) 3 0) 4 v7) 3 (mvR S h9 o o9 i j n).2.1) 4 v12) ws21 := hR21
      have hx21 : hp ws21 x (.inr (3, [.ref sh, .ref li, .int (s_c S 0), .int (s_c S 1), .int (s_c S 2), .int ((mvR S h9 o o9 i j n).2.1), .int v12, .int (s_c S 5), .int (s_c S 6)])) := hR21.1
      refine lv_aload_n hx hb dX5_doMove_84 rfl (lv_at hl 4 rfl) ?_
      refine r_get (ref := "SpanMover") S9 w21 hx21 rfl (by decide +kernel) 6 (by decide) (by decide +kernel) (Or.inl rfl) rfl dX5_doMove_85 ?_
      refine lv_if_ne (tgt := 104) hx hb dX5_doMove_88 (by decide) (fun c_88 => ?_) (fun c_88 => ?_)
      · refine lv_aload_n hx hb dX5_doMove_104 rfl (lv_at hl 4 rfl) ?_
        refine lv_dup hx hb dX5_doMove_105 rfl ?_
        refine r_get (ref := "SpanMover") S9 w21 hx21 rfl (by decide +kernel) 8 (by decide) (by decide +kernel) (Or.inl rfl) rfl dX5_doMove_106 ?_
        refine lv_iconst (v := 1) hx hb dX5_doMove_109 (by decide) ?_
        refine lv_iadd hx hb dX5_doMove_110 ?_
        refine lv_topi (fun v4 ev4 => ?_)
        refine r_put (ref := "SpanMover") S9 w21 hR21.1 rfl (by decide +kernel) tyX5_ok nmX5 8 (by decide) (by decide +kernel) (Or.inl rfl) rfl rfl rfl (Nat.le_of_ble_eq_true rfl) dX5_doMove_111 (fun ws22 H22 lc22 u22 w22 => ?_)
        have hR22 := RpX.sc w21.2.1 hR21 u22 (oX_set sh li (upd (upd (upd (upd (s_c S) 3 0) 4 v7) 3 (mvR S h9 o o9 i j n).2.1) 4 v12) 6 (by decide) v4)
        replace hR22 : RpX G x sh li ad ar (s_u S, (mvR S h9 o o9 i j n).2.2, s_s S, s_l S, upd (upd (upd (upd (upd (s_c S) 3 0) 4 v7) 3 (mvR S h9 o o9 i j n).2.1) 4 v12) 6 v4) ws22 := hR22
        have hx22 : hp ws22 x (.inr (3, [.ref sh, .ref li, .int (s_c S 0), .int (s_c S 1), .int (s_c S 2), .int ((mvR S h9 o o9 i j n).2.1), .int v12, .int (s_c S 5), .int v4])) := hR22.1
        refine lv_aload_n hx hb dX5_doMove_114 rfl (lv_at hl 4 rfl) ?_
        refine r_get (ref := "SpanMover") S9 w22 hx22 rfl (by decide +kernel) 6 (by decide) (by decide +kernel) (Or.inl rfl) rfl dX5_doMove_115 ?_
        exact ew_i S9 hr hlk w22 (by rw [show sp_move S a i b j n = (v12, (s_u S, (mvR S h9 o o9 i j n).2.2, s_s S, s_l S, upd (upd (upd (upd (upd (s_c S) 3 0) 4 v7) 3 (mvR S h9 o o9 i j n).2.1) 4 v12) 6 v4)) from by simp only [sp_move, hM, mvc, ← e12, if_neg c_88, ev4, upd_43]]; exact ⟨rfl, ad, ar, hR22⟩) dX5_doMove_118 (by decide) (by decide)
      · refine lv_aload_n hx hb dX5_doMove_91 rfl (lv_at hl 4 rfl) ?_
        refine lv_dup hx hb dX5_doMove_92 rfl ?_
        refine r_get (ref := "SpanMover") S9 w21 hx21 rfl (by decide +kernel) 7 (by decide) (by decide +kernel) (Or.inl rfl) rfl dX5_doMove_93 ?_
        refine lv_iconst (v := 1) hx hb dX5_doMove_96 (by decide) ?_
        refine lv_iadd hx hb dX5_doMove_97 ?_
        refine lv_topi (fun v5 ev5 => ?_)
        refine r_put (ref := "SpanMover") S9 w21 hR21.1 rfl (by decide +kernel) tyX5_ok nmX5 7 (by decide) (by decide +kernel) (Or.inl rfl) rfl rfl rfl (Nat.le_of_ble_eq_true rfl) dX5_doMove_98 (fun ws22 H22 lc22 u22 w22 => ?_)
        have hR22 := RpX.sc w21.2.1 hR21 u22 (oX_set sh li (upd (upd (upd (upd (s_c S) 3 0) 4 v7) 3 (mvR S h9 o o9 i j n).2.1) 4 v12) 5 (by decide) v5)
        replace hR22 : RpX G x sh li ad ar (s_u S, (mvR S h9 o o9 i j n).2.2, s_s S, s_l S, upd (upd (upd (upd (upd (s_c S) 3 0) 4 v7) 3 (mvR S h9 o o9 i j n).2.1) 4 v12) 5 v5) ws22 := hR22
        have hx22 : hp ws22 x (.inr (3, [.ref sh, .ref li, .int (s_c S 0), .int (s_c S 1), .int (s_c S 2), .int ((mvR S h9 o o9 i j n).2.1), .int v12, .int v5, .int (s_c S 6)])) := hR22.1
        refine lv_goto (tgt := 114) hx hb dX5_doMove_101 (by decide) ?_
        refine lv_aload_n hx hb dX5_doMove_114 rfl (lv_at hl 4 rfl) ?_
        refine r_get (ref := "SpanMover") S9 w22 hx22 rfl (by decide +kernel) 6 (by decide) (by decide +kernel) (Or.inl rfl) rfl dX5_doMove_115 ?_
        exact ew_i S9 hr hlk w22 (by rw [show sp_move S a i b j n = (v12, (s_u S, (mvR S h9 o o9 i j n).2.2, s_s S, s_l S, upd (upd (upd (upd (upd (s_c S) 3 0) 4 v7) 3 (mvR S h9 o o9 i j n).2.1) 4 v12) 5 v5)) from by simp only [sp_move, hM, mvc, ← e12, if_pos c_88, ev5, upd_43]]; exact ⟨rfl, ad, ar, hR22⟩) dX5_doMove_118 (by decide) (by decide)

set_option maxHeartbeats 4000000 in
set_option maxRecDepth 100000 in
theorem c_move (l : Launch) {G : Gt} {ws : va_W} (sz : Nat) {x sh li : Nat} {ad ar : Nat → Nat} {S : St} (hR : RpX G x sh li ad ar S ws) (hI : Inv S) (a i b j n : Int32) : Met l yX5_move wsX5_move ({ frames := 4, cells := 0, slots := 0, locals := 121 } : Room) (Pw G [.ref x, .int a, .int i, .int b, .int j, .int n] ws sz) (va_Qi (fun (r : Int32) (u : va_W) => r = (sp_move S a i b j n).1 ∧ ∃ ad2 ar2, RpX G x sh li ad2 ar2 (sp_move S a i b j n).2 u) (Bw G ws sz) (va_A ws sz)) 0 0 (va_A ws sz) := by
  refine Met_pw (cc := cX5_move) (maxL := 6) (ret := (some .int)) (by decide) rfl (Nat.le_of_ble_eq_true rfl) ?_
  intro p e s m below meth c ls hsz S9 hr hlk hnm w hl
  subst hsz
  replace S9 : CallFix p m c cX5_move 6 s _ wsX5_move RX5 := S9
  have hx := S9.1
  have hb := S9.2.1
  have hown := S9.2.2.2.1
  have hts := S9.2.2.2.2
  replace hl : lv_has ls 6 [(0, .ref x), (1, .int a), (2, .int i), (3, .int b), (4, .int j), (5, .int n)] := hl
  refine lv_aload_n hx hb dX5_move_0 rfl (lv_at hl 0 rfl) ?_
  refine lv_iload_n hx hb dX5_move_1 rfl (lv_at hl 1 rfl) ?_
  refine lv_iload_n hx hb dX5_move_2 rfl (lv_at hl 2 rfl) ?_
  refine lv_iload_n hx hb dX5_move_3 rfl (lv_at hl 3 rfl) ?_
  refine lv_iload hx hb dX5_move_4 (lv_at hl 4 rfl) ?_
  refine lv_iload hx hb dX5_move_6 (lv_at hl 5 rfl) ?_
  refine kw_vi S9 w (c_doMove l _ hR hI a i b j n) hR.1 rfl (cwV 5 hts gX5_move_X5_doMove rfl rfl rfl (by decide +kernel) ⟨Nat.le_of_ble_eq_true rfl, Nat.le_of_ble_eq_true rfl⟩) rfl hl.1 rfl (Nat.le_of_ble_eq_true rfl) dX5_move_8 ⟨Nat.le_of_ble_eq_true rfl, Nat.le_of_ble_eq_true rfl⟩ (fun v12 u12 H12 lc12 p12 w12 => ?_)
  exact ew_i S9 hr hlk w12 (p12) dX5_move_11 (by decide) (by decide)

set_option maxHeartbeats 4000000 in
set_option maxRecDepth 100000 in
theorem c_doPlanned (l : Launch) {G : Gt} {ws : va_W} (sz : Nat) {x sh li : Nat} {ad ar : Nat → Nat} {S : St} (hR : RpX G x sh li ad ar S ws) (hI : Inv S) (v : Int32) (k : Nat) (hv : v = nI k) (hk : k < 64) : Met l yX5_doPlanned wsX5_doPlanned ({ frames := 4, cells := 0, slots := 0, locals := 121 } : Room) (Pw G [.ref x, .int v] ws sz) (va_Qi (fun (r : Int32) (u : va_W) => r = (sp_move S (s_l S (k * 5)) (s_l S (k * 5 + 1)) (s_l S (k * 5 + 2)) (s_l S (k * 5 + 3)) (s_l S (k * 5 + 4))).1 ∧ ∃ ad2 ar2, RpX G x sh li ad2 ar2 (sp_move S (s_l S (k * 5)) (s_l S (k * 5 + 1)) (s_l S (k * 5 + 2)) (s_l S (k * 5 + 3)) (s_l S (k * 5 + 4))).2 u) (Bw G ws sz) (va_A ws sz)) 0 0 (va_A ws sz) := by
  refine Met_pw (cc := cX5_doPlanned) (maxL := 3) (ret := (some .int)) (by decide) rfl (Nat.le_of_ble_eq_true rfl) ?_
  intro p e s m below meth c ls hsz S9 hr hlk hnm w hl
  subst hsz
  replace S9 : CallFix p m c cX5_doPlanned 3 s _ wsX5_doPlanned RX5 := S9
  have hx := S9.1
  have hb := S9.2.1
  have hown := S9.2.2.2.1
  have hts := S9.2.2.2.2
  replace hl : lv_has ls 3 [(0, .ref x), (1, .int v)] := hl
  refine lv_iload_n hx hb dX5_doPlanned_0 rfl (lv_at hl 1 rfl) ?_
  refine lv_iconst (v := 5) hx hb dX5_doPlanned_1 (by decide) ?_
  refine lv_imul hx hb dX5_doPlanned_2 ?_
  refine lv_topi (fun v1 ev1 => ?_)
  refine lv_istore_n (lv' := [(2, .int v1), (0, .ref x), (1, .int v)]) hx hb dX5_doPlanned_3 rfl hl (by decide) rfl (fun ls hl => ?_)
  refine lv_aload_n hx hb dX5_doPlanned_4 rfl (lv_at hl 1 rfl) ?_
  refine lv_aload_n hx hb dX5_doPlanned_5 rfl (lv_at hl 1 rfl) ?_
  refine r_get (ref := "SpanMover") S9 w hR.1 rfl (by decide +kernel) 1 (by decide) (by decide +kernel) (Or.inl rfl) rfl dX5_doPlanned_6 ?_
  refine lv_iload_n hx hb dX5_doPlanned_9 rfl (lv_at hl 0 rfl) ?_
  refine r_iald S9 w hR.2.2.1 (by rw [show v1 = nI (k * 5) from by rw [ev1, hv]; exact pk_mul k 5]; exact vp_in_nI (by omega) (by decide)) dX5_doPlanned_10 ?_
  refine lv_topi (fun v2 ev2 => ?_)
  refine lv_aload_n hx hb dX5_doPlanned_11 rfl (lv_at hl 1 rfl) ?_
  refine r_get (ref := "SpanMover") S9 w hR.1 rfl (by decide +kernel) 1 (by decide) (by decide +kernel) (Or.inl rfl) rfl dX5_doPlanned_12 ?_
  refine lv_iload_n hx hb dX5_doPlanned_15 rfl (lv_at hl 0 rfl) ?_
  refine lv_iconst (v := 1) hx hb dX5_doPlanned_16 (by decide) ?_
  refine lv_iadd hx hb dX5_doPlanned_17 ?_
  refine lv_topi (fun v3 ev3 => ?_)
  refine r_iald S9 w hR.2.2.1 (by rw [show v3 = nI (k * 5 + 1) from by rw [ev3, ev1, hv]; exact (congrArg (· + 1) (pk_mul k 5)).trans (nI_add (k * 5) 1)]; exact vp_in_nI (by omega) (by decide)) dX5_doPlanned_18 ?_
  refine lv_topi (fun v4 ev4 => ?_)
  refine lv_aload_n hx hb dX5_doPlanned_19 rfl (lv_at hl 1 rfl) ?_
  refine r_get (ref := "SpanMover") S9 w hR.1 rfl (by decide +kernel) 1 (by decide) (by decide +kernel) (Or.inl rfl) rfl dX5_doPlanned_20 ?_
  refine lv_iload_n hx hb dX5_doPlanned_23 rfl (lv_at hl 0 rfl) ?_
  refine lv_iconst (v := 2) hx hb dX5_doPlanned_24 (by decide) ?_
  refine lv_iadd hx hb dX5_doPlanned_25 ?_
  refine lv_topi (fun v5 ev5 => ?_)
  refine r_iald S9 w hR.2.2.1 (by rw [show v5 = nI (k * 5 + 2) from by rw [ev5, ev1, hv]; exact (congrArg (· + 2) (pk_mul k 5)).trans (nI_add (k * 5) 2)]; exact vp_in_nI (by omega) (by decide)) dX5_doPlanned_26 ?_
  refine lv_topi (fun v6 ev6 => ?_)
  refine lv_aload_n hx hb dX5_doPlanned_27 rfl (lv_at hl 1 rfl) ?_
  refine r_get (ref := "SpanMover") S9 w hR.1 rfl (by decide +kernel) 1 (by decide) (by decide +kernel) (Or.inl rfl) rfl dX5_doPlanned_28 ?_
  refine lv_iload_n hx hb dX5_doPlanned_31 rfl (lv_at hl 0 rfl) ?_
  refine lv_iconst (v := 3) hx hb dX5_doPlanned_32 (by decide) ?_
  refine lv_iadd hx hb dX5_doPlanned_33 ?_
  refine lv_topi (fun v7 ev7 => ?_)
  refine r_iald S9 w hR.2.2.1 (by rw [show v7 = nI (k * 5 + 3) from by rw [ev7, ev1, hv]; exact (congrArg (· + 3) (pk_mul k 5)).trans (nI_add (k * 5) 3)]; exact vp_in_nI (by omega) (by decide)) dX5_doPlanned_34 ?_
  refine lv_topi (fun v8 ev8 => ?_)
  refine lv_aload_n hx hb dX5_doPlanned_35 rfl (lv_at hl 1 rfl) ?_
  refine r_get (ref := "SpanMover") S9 w hR.1 rfl (by decide +kernel) 1 (by decide) (by decide +kernel) (Or.inl rfl) rfl dX5_doPlanned_36 ?_
  refine lv_iload_n hx hb dX5_doPlanned_39 rfl (lv_at hl 0 rfl) ?_
  refine lv_iconst (v := 4) hx hb dX5_doPlanned_40 (by decide) ?_
  refine lv_iadd hx hb dX5_doPlanned_41 ?_
  refine lv_topi (fun v9 ev9 => ?_)
  refine r_iald S9 w hR.2.2.1 (by rw [show v9 = nI (k * 5 + 4) from by rw [ev9, ev1, hv]; exact (congrArg (· + 4) (pk_mul k 5)).trans (nI_add (k * 5) 4)]; exact vp_in_nI (by omega) (by decide)) dX5_doPlanned_42 ?_
  refine lv_topi (fun v10 ev10 => ?_)
  refine kw_vi S9 w (c_doMove l _ hR hI v2 v4 v6 v8 v10) hR.1 rfl (cwV 5 hts gX5_doPlanned_X5_doMove rfl rfl rfl (by decide +kernel) ⟨Nat.le_of_ble_eq_true rfl, Nat.le_of_ble_eq_true rfl⟩) rfl hl.1 rfl (Nat.le_of_ble_eq_true rfl) dX5_doPlanned_43 ⟨Nat.le_of_ble_eq_true rfl, Nat.le_of_ble_eq_true rfl⟩ (fun v12 u12 H12 lc12 p12 w12 => ?_)
  exact ew_i S9 hr hlk w12 (by rw [ev2, cl_nI (show v1 = nI (k * 5) from by rw [ev1, hv]; exact pk_mul k 5) (by omega)] at p12; rw [ev4, cl_nI (show v3 = nI (k * 5 + 1) from by rw [ev3, ev1, hv]; exact (congrArg (· + 1) (pk_mul k 5)).trans (nI_add (k * 5) 1)) (by omega)] at p12; rw [ev6, cl_nI (show v5 = nI (k * 5 + 2) from by rw [ev5, ev1, hv]; exact (congrArg (· + 2) (pk_mul k 5)).trans (nI_add (k * 5) 2)) (by omega)] at p12; rw [ev8, cl_nI (show v7 = nI (k * 5 + 3) from by rw [ev7, ev1, hv]; exact (congrArg (· + 3) (pk_mul k 5)).trans (nI_add (k * 5) 3)) (by omega)] at p12; rw [ev10, cl_nI (show v9 = nI (k * 5 + 4) from by rw [ev9, ev1, hv]; exact (congrArg (· + 4) (pk_mul k 5)).trans (nI_add (k * 5) 4)) (by omega)] at p12; exact p12) dX5_doPlanned_46 (by decide) (by decide)

set_option maxHeartbeats 4000000 in
set_option maxRecDepth 100000 in
theorem c_run (l : Launch) {G : Gt} {ws : va_W} (sz : Nat) {x sh li : Nat} {ad ar : Nat → Nat} {S : St} (hR : RpX G x sh li ad ar S ws) (hI : Inv S) : Met l yX5_run wsX5_run ({ frames := 5, cells := 0, slots := 0, locals := 143 } : Room) (Pw G [.ref x] ws sz) (va_Qi (fun (r : Int32) (u : va_W) => r = (sp_run S).1 ∧ ∃ ad2 ar2, RpX G x sh li ad2 ar2 (sp_run S).2 u) (Bw G ws sz) (va_A ws sz)) 0 0 (va_A ws sz) := by
  refine Met_pw (cc := cX5_run) (maxL := 2) (ret := (some .int)) (by decide) rfl (Nat.le_of_ble_eq_true rfl) ?_
  intro p e s m below meth c ls hsz S9 hr hlk hnm w hl
  subst hsz
  replace S9 : CallFix p m c cX5_run 2 s _ wsX5_run RX5 := S9
  have hx := S9.1
  have hb := S9.2.1
  have hown := S9.2.2.2.1
  have hts := S9.2.2.2.2
  replace hl : lv_has ls 2 [(0, .ref x)] := hl
  refine lv_iconst (v := 0) hx hb dX5_run_0 (by decide) ?_
  refine lv_istore_n (lv' := [(1, .int 0), (0, .ref x)]) hx hb dX5_run_1 rfl hl (by decide) rfl (fun ls hl => ?_)
  obtain ⟨P, hP, hP0⟩ := hI.2.2.1
  obtain ⟨k, S7, ad7, ar7, ws7, H7, lc7, hk, hv, hI7, hc7, hr7, hR7, w7, eH, eL⟩ : ∃ (k : Nat) (S7 : St) (ad7 ar7 : Nat → Nat) (ws7 : va_W) (H7 : Heap) (lc7 : List Loc), k ≤ P ∧ (0 : Int32) = nI k ∧ Inv S7 ∧ s_c S7 0 = nI P ∧ runF P 0 S = runF (P - k) k S7 ∧ RpX G x sh li ad7 ar7 S7 ws7 ∧ Wd G (va_A ws s.heap.size) s ws7 H7 lc7 ∧ s.heap = H7 ∧ [] = lc7 := ⟨0, S, ad, ar, ws, _, _, by omega, rfl, hI, hP0, rfl, hR, w, rfl, rfl⟩
  refine W_at eH eL ?_
  clear eH eL
  generalize (0 : Int32) = v at hl hv
  obtain ⟨t, ht⟩ : ∃ t, P - k < t := ⟨_, Nat.lt_succ_self _⟩
  induction t generalizing k v ls S7 ad7 ar7 ws7 H7 lc7 with
  | zero => exact absurd ht (Nat.not_lt_zero _)
  | succ t ih =>
    refine lv_iload_n hx hb dX5_run_2 rfl (lv_at hl 0 rfl) ?_
    refine lv_aload_n hx hb dX5_run_3 rfl (lv_at hl 1 rfl) ?_
    refine r_get (ref := "SpanMover") S9 w7 hR7.1 rfl (by decide +kernel) 2 (by decide) (by decide +kernel) (Or.inl rfl) rfl dX5_run_4 ?_
    refine lv_icmp_ge (tgt := 24) hx hb dX5_run_7 (by decide) (fun c_7 => ?_) (fun c_7 => ?_)
    · refine lv_aload_n hx hb dX5_run_24 rfl (lv_at hl 1 rfl) ?_
      refine lv_iconst (v := 0) hx hb dX5_run_25 (by decide) ?_
      have hend : runF P 0 S = (k, S7) := by
        rw [hc7] at c_7
        have h4 := ge_nI hv hk (by omega) c_7
        subst h4
        rw [hr7, Nat.sub_self]
        rfl
      refine r_put (ref := "SpanMover") S9 w7 hR7.1 rfl (by decide +kernel) tyX5_ok nmX5 2 (by decide) (by decide +kernel) (Or.inl rfl) rfl rfl rfl (Nat.le_of_ble_eq_true rfl) dX5_run_26 (fun ws9 H9 lc9 u9 w9 => ?_)
      have hR9 := RpX.sc w7.2.1 hR7 u9 (oX_set sh li (s_c S7) 0 (by decide) 0)
      refine lv_iload_n hx hb dX5_run_29 rfl (lv_at hl 0 rfl) ?_
      exact ew_i S9 hr hlk w9 (by unfold sp_run; rw [cl_nI hP0 (by omega), hend]; exact ⟨hv, _, _, hR9⟩) dX5_run_30 (by decide) (by decide)
    · refine lv_aload_n hx hb dX5_run_10 rfl (lv_at hl 1 rfl) ?_
      refine lv_iload_n hx hb dX5_run_11 rfl (lv_at hl 0 rfl) ?_
      have hk4 : k < P := by rw [hc7] at c_7; exact nge_nI hv hk (by omega) c_7
      refine kw_vi S9 w7 (c_doPlanned l _ hR7 hI7 v k hv (by omega)) hR7.1 rfl (cwV 1 hts gX5_run_X5_doPlanned rfl rfl rfl (by decide +kernel) ⟨Nat.le_of_ble_eq_true rfl, Nat.le_of_ble_eq_true rfl⟩) rfl hl.1 rfl (Nat.le_of_ble_eq_true rfl) dX5_run_12 ⟨Nat.le_of_ble_eq_true rfl, Nat.le_of_ble_eq_true rfl⟩ (fun v12 u12 H12 lc12 p12 w12 => ?_)
      obtain ⟨ad8, ar8, hR12⟩ := p12.2
      refine lv_if_ne (tgt := 24) hx hb dX5_run_15 (by decide) (fun c_15 => ?_) (fun c_15 => ?_)
      · refine lv_aload_n hx hb dX5_run_24 rfl (lv_at hl 1 rfl) ?_
        refine lv_iconst (v := 0) hx hb dX5_run_25 (by decide) ?_
        have hend : runF P 0 S = (k, (sp_move S7 (s_l S7 (k * 5)) (s_l S7 (k * 5 + 1)) (s_l S7 (k * 5 + 2)) (s_l S7 (k * 5 + 3)) (s_l S7 (k * 5 + 4))).2) := by rw [hr7, runF_stop hk4 (fun q => c_15 (p12.1.trans q))]
        refine r_put (ref := "SpanMover") S9 w12 hR12.1 rfl (by decide +kernel) tyX5_ok nmX5 2 (by decide) (by decide +kernel) (Or.inl rfl) rfl rfl rfl (Nat.le_of_ble_eq_true rfl) dX5_run_26 (fun ws9 H9 lc9 u9 w9 => ?_)
        have hR9 := RpX.sc w12.2.1 hR12 u9 (oX_set sh li (s_c ((sp_move S7 (s_l S7 (k * 5)) (s_l S7 (k * 5 + 1)) (s_l S7 (k * 5 + 2)) (s_l S7 (k * 5 + 3)) (s_l S7 (k * 5 + 4))).2)) 0 (by decide) 0)
        refine lv_iload_n hx hb dX5_run_29 rfl (lv_at hl 0 rfl) ?_
        exact ew_i S9 hr hlk w9 (by unfold sp_run; rw [cl_nI hP0 (by omega), hend]; exact ⟨hv, _, _, hR9⟩) dX5_run_30 (by decide) (by decide)
      · obtain ⟨v1, ev1⟩ : ∃ z : Int32, z = v + 1 := ⟨_, rfl⟩
        refine lv_iinc (v := v1) (lv' := [(1, .int v1), (0, .ref x)]) hx hb dX5_run_18 hl (k := 0) rfl (by rw [ev1]; rfl) (by decide) rfl (fun ls hl => ?_)
        refine lv_goto (tgt := 2) hx hb dX5_run_21 (by decide) ?_
        exact ih (ls := ls) (k := k + 1) (v := v1) (S7 := (sp_move S7 (s_l S7 (k * 5)) (s_l S7 (k * 5 + 1)) (s_l S7 (k * 5 + 2)) (s_l S7 (k * 5 + 3)) (s_l S7 (k * 5 + 4))).2) (ad7 := ad8) (ar7 := ar8) (ws7 := u12) (H7 := H12) (lc7 := lc12) (hk := by omega) (hv := by rw [ev1, hv]; exact nI_1 k) (hI7 := inv_move hI7 _ _ _ _ _) (hc7 := by rw [← hc7]; exact (mvc_0 _ _ _)) (hr7 := by rw [hr7, runF_go hk4 (p12.1.symm.trans c_15)]) (hl := hl) (w7 := w12) (hR7 := hR12) (ht := by omega)
end
section
section LIBN
variable {p : Program} {l : Launch} {e : Env} {R : Room} {s : State} {m : MethodId} {args : Array Value} {below : List Frame} {meth : Method} {c : Code} {H : Heap} {locs : List Loc} {cells slots : Nat} {Q : State → Prop}
variable {cc : ByteArray} {nL pc : Nat} {ls : Array Slot} {rest : List Value} {Ts : List Cond} {own : String} {G : Gt} {A : Nat → Prop} {ws : va_W}
theorem fresh_of {A : Nat → Prop} {ws : va_W} {q : Nat} {e0 : va_E} (hD : va_D A (ws ++ [(q, e0)])) : ∀ e, ¬ hp ws q e := by
  intro e ⟨k, hk⟩
  have hl := (List.getElem?_eq_some_iff.mp hk).1
  have := hD.1 k ws.length (q, e) (q, e0) (by rw [List.getElem?_append_left hl]; exact hk) (by rw [List.getElem?_append_right (Nat.le_refl _), Nat.sub_self]; rfl) rfl
  omega
/-- an array's class is the one that the tables name -/
theorem Wd.cls (w : Wd G A s ws H locs) {cA cB : ClassId} {ty : FieldType} {t0 : Nat} (h0 : (TYs G)[t0]? = some (cB, ty)) (hK : va_K G.1 vwCl (TYs G ++ [(cA, ty)]) s) : cA = cB := by
  have h1 := (w.2.2.2.1.2 t0 _ h0).2
  have h2 := (hK.2 3 (cA, ty) rfl).2
  cases ty with
  | object C =>
    obtain ⟨k1, c1, a1, a2, a3, a4⟩ := h1
    obtain ⟨k2, c2, b1, b2, b3, b4⟩ := h2
    exact Option.some.inj (b4.symm.trans a4)
  | _ => exact Option.some.inj (Eq.trans (Eq.symm h2) h1)
theorem r_newI (S : CallFix p m c cc nL s args Ts own) (w : Wd G A s ws H locs) (hw : Cond.arrayClass .int ∈ Ts) {n : Int32} {N : Nat} (hn : ¬ n < 0) (hN : n.toNatClampNeg = N) (hb : N ≤ 100000) (hcells : cells + 1 ≤ R.cells) (hslots : slots + N ≤ R.slots) (hdg : decode cc pc = .ok (.newarray .int, 2))
    (kk : ∀ (q : Nat) (ws' : va_W) (H1 : Heap), (∀ e, ¬ hp ws q e) → hu ws q (aI G N (fun _ => 0)) ws' → Wd G A s ws' H1 locs → W p l e R s m args below meth c H1 locs (cells + 1) (slots + N) Q (F0 m (pc + 2) ls (.ref q :: rest))) : W p l e R s m args below meth c H locs cells slots Q (F0 m pc ls (.int n :: rest)) := by
  have w0 := w
  obtain ⟨hP, hD, hS, hK, hA, hT⟩ := w
  refine va_newa (atype := .int) (ty := .int) (a0 := (N, .inl (fun _ => 0))) S.1 S.2.1 (S.2.2.2.2 _ hw) rfl hK hP hD hS hA (fun cA => rfl) hn hN (by simp [componentBytes]; omega) hcells hslots hdg (fun q cA H1 hK1 hP1 hD1 hS1 => ?_)
  have e1 : cA = G.2.1 := w0.cls (t0 := 0) rfl hK1
  subst e1
  exact kk q _ H1 (fresh_of hD1) hu_push ⟨hP1, hD1, hS1, hK, hA, hT⟩
theorem r_newJ (S : CallFix p m c cc nL s args Ts own) (w : Wd G A s ws H locs) (hw : Cond.arrayClass .long ∈ Ts) {n : Int32} {N : Nat} (hn : ¬ n < 0) (hN : n.toNatClampNeg = N) (hb : N ≤ 100000) (hcells : cells + 1 ≤ R.cells) (hslots : slots + N ≤ R.slots) (hdg : decode cc pc = .ok (.newarray .long, 2))
    (kk : ∀ (q : Nat) (ws' : va_W) (H1 : Heap), (∀ e, ¬ hp ws q e) → hu ws q (aJ G N (fun _ => 0)) ws' → Wd G A s ws' H1 locs → W p l e R s m args below meth c H1 locs (cells + 1) (slots + N) Q (F0 m (pc + 2) ls (.ref q :: rest))) : W p l e R s m args below meth c H locs cells slots Q (F0 m pc ls (.int n :: rest)) := by
  have w0 := w
  obtain ⟨hP, hD, hS, hK, hA, hT⟩ := w
  refine va_newa (atype := .long) (ty := .long) (a0 := (N, .inr (.inl (fun _ => 0)))) S.1 S.2.1 (S.2.2.2.2 _ hw) rfl hK hP hD hS hA (fun cA => rfl) hn hN (by simp [componentBytes]; omega) hcells hslots hdg (fun q cA H1 hK1 hP1 hD1 hS1 => ?_)
  have e1 : cA = G.2.2.1 := w0.cls (t0 := 1) rfl hK1
  subst e1
  exact kk q _ H1 (fresh_of hD1) hu_push ⟨hP1, hD1, hS1, hK, hA, hT⟩
theorem r_newT (S : CallFix p m c cc nL s args Ts own) (w : Wd G A s ws H locs) {index : Nat} (hw : Cond.classLink own index "SpanMover$Item" ∈ Ts) {n : Int32} {N : Nat} (hn : ¬ n < 0) (hN : n.toNatClampNeg = N) (hb : N ≤ 100000) (hcells : cells + 1 ≤ R.cells) (hslots : slots + N ≤ R.slots) (hdg : decode cc pc = .ok (.anewarray index, 3))
    (kk : ∀ (q : Nat) (ws' : va_W) (H1 : Heap), (∀ e, ¬ hp ws q e) → hu ws q (aT G N (fun _ => none)) ws' → Wd G A s ws' H1 locs → W p l e R s m args below meth c H1 locs (cells + 1) (slots + N) Q (F0 m (pc + 3) ls (.ref q :: rest))) : W p l e R s m args below meth c H locs cells slots Q (F0 m pc ls (.int n :: rest)) := by
  have w0 := w
  obtain ⟨hP, hD, hS, hK, hA, hT⟩ := w
  refine va_newq S.1 S.2.1 S.2.2.2.1 (S.2.2.2.2 _ hw) hT.2.2.1 hK hP hD hS hA hn hN (by omega) hcells hslots hdg (fun q cA H1 hK1 hP1 hD1 hS1 => ?_)
  have e1 : cA = G.2.2.2 := w0.cls (t0 := 2) rfl hK1
  subst e1
  exact kk q _ H1 (fresh_of hD1) hu_push ⟨hP1, hD1, hS1, hK, hA, hT⟩
theorem r_new (S : CallFix p m c cc nL s args Ts own) (w : Wd G A s ws H locs) {ci : Nat} {C : String} {T : u_T} {N : Nat} (hc : vwCl[ci]? = some (C, T, N)) (hin : ∀ w ∈ u_ws C T N, w ∈ Ts) {ty : Nat → FieldType} (hty : ∀ k, k < N → parseFieldDescriptor (T k).2.2.1 = some (ty k)) {index : Nat} (hw : Cond.classLink own index C ∈ Ts ∧ Cond.instantiable C N ∈ Ts ∧ Cond.initialized C ∈ Ts) {fs : List Value} (hfs : ∀ j, j < N → defaultValue (ty j) = vp_V fs j) (hcells : cells + 1 ≤ R.cells) (hslots : slots + N ≤ R.slots) (hdg : decode cc pc = .ok (.new index, 3))
    (kk : ∀ (q : Nat) (ws' : va_W) (H1 : Heap), (∀ e, ¬ hp ws q e) → hu ws q (.inr (ci, fs)) ws' → Wd G A s ws' H1 locs → W p l e R s m args below meth c H1 locs (cells + 1) (slots + N) Q (F0 m (pc + 3) ls (.ref q :: rest))) : W p l e R s m args below meth c H locs cells slots Q (F0 m pc ls rest) := by
  obtain ⟨hP, hD, hS, hK, hA, hT⟩ := w
  exact va_new S.1 S.2.1 S.2.2.2.2 hin ty hty S.2.2.2.1 (S.2.2.2.2 _ hw.1) (S.2.2.2.2 _ hw.2.1) (S.2.2.2.2 _ hw.2.2) hK hP hD hS hA hc hfs hcells hslots hdg (fun q H1 hP1 hD1 hS1 => kk q _ H1 (fresh_of hD1) hu_push ⟨hP1, hD1, hS1, hK, hA, hT⟩)
end LIBN
def nw2 (ws : va_W) (a b : Nat) (ea eb : va_E) (u : va_W) : Prop := hp u a ea ∧ hp u b eb ∧ a ≠ b ∧ (∀ e, ¬ hp ws b e) ∧ ∀ c e, c ≠ a → c ≠ b → (hp u c e ↔ hp ws c e)
/-- the state of a new object -/
def S0 : St := (0, fun _ => none, fun _ => none, fun _ => 0, fun k => if k = 1 then 60000 else 0)
theorem S0_inv : Inv S0 := ⟨by decide, rfl, ⟨0, by decide, rfl⟩, (fun h o q => by cases q), (fun h h' o o' q => by cases q), (fun i h q => by cases q), (fun h o q => by cases q)⟩
/-- a new object on the shelf -/
theorem RpX.new {G : Gt} {x sh li : Nat} {ad ar : Nat → Nat} {S : St} {A : Nat → Prop} {ws1 ws4 : va_W} {c : Int32} {o : Ob} {a b pl : Nat} (hI : Inv S) (hD : va_D A ws1) (hR : RpX G x sh li ad ar (s_u S, s_o S, s_s S, s_l S, upd (s_c S) 1 c) ws1) (fa : ∀ e, ¬ hp ws1 a e) (fb : o_k o ≤ 6 → a ≠ b ∧ ∀ e, ¬ hp ws1 b e)
    (ha : hp ws4 a (.inr (o_cl (o_k o), o_fs o b 0 0))) (hb3 : o_k o ≤ 3 → hp ws4 b (aJ G (o_n o) (o_f o))) (hb6 : 4 ≤ o_k o → o_k o ≤ 6 → hp ws4 b (aT G (o_n o) (fun _ => none))) (he : o_e o = fun _ => none) (hs : hp ws4 sh (aT G 400 (va_up (fun i => (s_s S i).map ad) pl (some a)))) (hk : ∀ q e, q ≠ a → (o_k o ≤ 6 → q ≠ b) → q ≠ sh → (hp ws4 q e ↔ hp ws1 q e)) :
    RpX G x sh li (va_up ad (s_u S) a) (va_up ar (s_u S) b) (s_new S pl o c) ws4 := by
  obtain ⟨h1, h2, h3, h4, h5, h6⟩ := hR
  have ne : ∀ {q : Nat} {e : va_E}, hp ws1 q e → q ≠ a ∧ (o_k o ≤ 6 → q ≠ b) := fun {q e} hq => ⟨fun z => fa e (by rw [← z]; exact hq), fun z z' => (fb z).2 e (by rw [← z']; exact hq)⟩
  have nu : ∀ {h : Nat} {oh : Ob}, s_o S h = some oh → h ≠ s_u S := fun {h oh} hh z => by
    have := (hI.2.2.2.1 h oh hh).2.2
    omega
  have adk : ∀ {h : Nat} {oh : Ob}, s_o S h = some oh → va_up ad (s_u S) a h = ad h := fun hh => va_up_ne _ _ (nu hh)
  have ark : ∀ {h : Nat} {oh : Ob}, s_o S h = some oh → va_up ar (s_u S) b h = ar h := fun hh => va_up_ne _ _ (nu hh)
  have hx0 := ne h1
  have hl0 := ne h3
  have xsh : x ≠ sh := hp_ne_of hD h1 h2 (fun q => by cases q)
  have lsh : li ≠ sh := hp_ne_of hD h3 h2 (fun q => by simp at q)
  have old : ∀ {h : Nat} {oh : Ob}, s_o (s_new S pl o c) h = some oh → (h = s_u S ∧ oh = o) ∨ s_o S h = some oh := by
    intro h oh hh
    by_cases hu0 : h = s_u S
    · subst hu0
      have := hh.symm.trans (va_up_eq (f := s_o S) (k := s_u S) (v := some o))
      cases this
      exact Or.inl ⟨rfl, rfl⟩
    · exact Or.inr (by rw [← hh]; exact (va_up_ne (s_o S) _ hu0).symm)
  have oldc : ∀ {h : Nat} {oh : Ob}, s_o S h = some oh → (ad h ≠ a ∧ (o_k o ≤ 6 → ad h ≠ b) ∧ ad h ≠ sh) ∧ (o_k oh ≤ 6 → ar h ≠ a ∧ (o_k o ≤ 6 → ar h ≠ b) ∧ ar h ≠ sh) := by
    intro h oh hh
    obtain ⟨dk, kd, q1, q2, q3, q4⟩ := h4 h oh hh
    refine ⟨⟨(ne q1).1, (ne q1).2, hp_ne_of hD q1 h2 (fun q => by cases q)⟩, fun z => ?_⟩
    by_cases z3 : o_k oh ≤ 3
    · exact ⟨(ne (q3 z3)).1, (ne (q3 z3)).2, h6 h oh hh z⟩
    · exact ⟨(ne (q4 (by omega) z)).1, (ne (q4 (by omega) z)).2, h6 h oh hh z⟩
  have mapk : ∀ r : Option Nat, (∀ h, r = some h → ∃ oh, s_o S h = some oh) → r.map (va_up ad (s_u S) a) = r.map ad := by
    intro r hr
    cases r with
    | none => rfl
    | some h =>
      obtain ⟨oh, hh⟩ := hr h rfl
      show some _ = some _
      rw [adk hh]
  refine ⟨(hk x _ hx0.1 hx0.2 xsh).mpr h1, ?_, (hk li _ hl0.1 hl0.2 lsh).mpr h3, fun h oh hh => ?_, fun h h' oh oh' hh hh' hn => ?_, fun h oh hh hko => ?_⟩
  · have e1 : (fun i => (s_s (s_new S pl o c) i).map (va_up ad (s_u S) a)) = va_up (fun i => (s_s S i).map ad) pl (some a) := by
      funext i
      show (va_up (s_s S) pl (some (s_u S)) i).map _ = _
      by_cases hi : i = pl
      · subst hi
        rw [va_up_self, va_up_self]
        show some _ = some _
        rw [va_up_self]
      · rw [va_up_ne _ _ hi, va_up_ne _ _ hi]
        exact mapk _ (fun h hh => hI.2.2.2.2.2.1 i h hh)
    rw [e1]
    exact hs
  · rcases old hh with ⟨rfl, rfl⟩ | hh
    · refine ⟨0, 0, ?_, Or.inl rfl, fun z => ?_, fun z z' => ?_⟩
      · rw [va_up_self, va_up_self]
        exact ha
      · rw [va_up_self]
        exact hb3 z
      · rw [va_up_self, he]
        exact hb6 z z'
    · obtain ⟨⟨n1, n2, n3⟩, n4⟩ := oldc hh
      obtain ⟨dk, kd, q1, q2, q3, q4⟩ := h4 h oh hh
      refine ⟨dk, kd, ?_, q2, fun z => ?_, fun z z' => ?_⟩
      · rw [adk hh, ark hh]
        exact (hk _ _ n1 n2 n3).mpr q1
      · obtain ⟨m1, m2, m3⟩ := n4 (by omega)
        rw [ark hh]
        exact (hk _ _ m1 m2 m3).mpr (q3 z)
      · obtain ⟨m1, m2, m3⟩ := n4 z'
        rw [ark hh]
        have e1 : (fun i => (o_e oh i).map (va_up ad (s_u S) a)) = fun i => (o_e oh i).map ad := by
          funext i
          exact mapk _ (fun h2 hh2 => hI.el hh z z' i h2 hh2)
        rw [e1]
        exact (hk _ _ m1 m2 m3).mpr (q4 z z')
  · rcases old hh with ⟨e1, e2⟩ | g1
    · rcases old hh' with ⟨e3, e4⟩ | g2
      · exact absurd (e1.trans e3.symm) hn
      · subst e1; subst e2
        obtain ⟨⟨n1, n2, n3⟩, n4⟩ := oldc g2
        rw [va_up_self, va_up_self, adk g2, ark g2]
        exact ⟨n1.symm, fun z z' => ((n4 z').2.1 z).symm⟩
    · rcases old hh' with ⟨e3, e4⟩ | g2
      · subst e3; subst e4
        obtain ⟨⟨n1, n2, n3⟩, n4⟩ := oldc g1
        rw [va_up_self, va_up_self, adk g1, ark g1]
        exact ⟨n1, fun z z' => (n4 z).2.1 z'⟩
      · rw [adk g1, ark g1, adk g2, ark g2]
        exact h5 h h' oh oh' g1 g2 hn
  · rcases old hh with ⟨rfl, rfl⟩ | hh
    · rw [va_up_self]
      exact ((ne h2).2 hko).symm
    · rw [ark hh]
      exact h6 h oh hh hko
end
section
set_option maxHeartbeats 4000000 in
set_option maxRecDepth 100000 in
theorem c_Item_init_0 (l : Launch) {G : Gt} {ws : va_W} (sz : Nat) {a : Nat} {sz0 k0 : Int32} (ha : hp ws a (.inr (0, [.int sz0, .int k0, .null, .int 0, .long 0]))) (k : Int32) : Met l yX0_init wsX0_init ({ frames := 1, cells := 0, slots := 0, locals := 12 } : Room) (Pw G [.ref a, .int k] ws sz) (va_Qv (fun (u : va_W) => hu ws a (.inr (0, [.int sz0, .int k, .null, .int 0, .long 0])) u) (Bw G ws sz) (va_A ws sz)) 0 0 (va_A ws sz) := by
  refine Met_pw (cc := cX0_init) (maxL := 2) (ret := none) (by decide) rfl (Nat.le_of_ble_eq_true rfl) ?_
  intro p e s m below meth c ls hsz S9 hr hlk hnm w hl
  subst hsz
  replace S9 : CallFix p m c cX0_init 2 s _ wsX0_init RX0 := S9
  have hx := S9.1
  have hb := S9.2.1
  have hown := S9.2.2.2.1
  have hts := S9.2.2.2.2
  replace hl : lv_has ls 2 [(0, .ref a), (1, .int k)] := hl
  refine lv_aload_n hx hb dX0_init_0 rfl (lv_at hl 0 rfl) ?_
  refine W.objInit hx hb hown (hts (.methodLink RX0 1 objectInit) (by decide +kernel)) (hts (.instanceMethod objectInit) (by decide +kernel)) (hts _ (List.mem_of_getElem? (i := 3) rfl)) rfl (hl.1.trans S9.2.2.1.symm) rfl dX0_init_1 (Nat.le_of_ble_eq_true rfl) (Nat.le_of_ble_eq_true rfl) ?_
  refine W.eq (g2 := F0 m 4 ls []) rfl ?_
  refine lv_aload_n hx hb dX0_init_4 rfl (lv_at hl 0 rfl) ?_
  refine lv_iload_n hx hb dX0_init_5 rfl (lv_at hl 1 rfl) ?_
  refine r_putF S9 w hnm ha rfl (by decide +kernel) tyX1_ok nmX1 1 (by decide) (by decide +kernel) rfl rfl rfl rfl (Nat.le_of_ble_eq_true rfl) dX0_init_6 (fun ws1 H1 lc1 u1 w1 => ?_)
  have f1 : hp ws1 a (.inr (0, [.int sz0, .int k, .null, .int 0, .long 0])) := u1.1
  exact ew_v S9 hr hlk w1 (u1) dX0_init_9 (by decide) (by decide)

set_option maxHeartbeats 4000000 in
set_option maxRecDepth 100000 in
theorem c_Item_init_1 (l : Launch) {G : Gt} {ws : va_W} (sz : Nat) {a : Nat} {sz0 k0 : Int32} (ha : hp ws a (.inr (1, [.int sz0, .int k0, .null]))) (k : Int32) : Met l yX0_init wsX0_init ({ frames := 1, cells := 0, slots := 0, locals := 12 } : Room) (Pw G [.ref a, .int k] ws sz) (va_Qv (fun (u : va_W) => hu ws a (.inr (1, [.int sz0, .int k, .null])) u) (Bw G ws sz) (va_A ws sz)) 0 0 (va_A ws sz) := by
  refine Met_pw (cc := cX0_init) (maxL := 2) (ret := none) (by decide) rfl (Nat.le_of_ble_eq_true rfl) ?_
  intro p e s m below meth c ls hsz S9 hr hlk hnm w hl
  subst hsz
  replace S9 : CallFix p m c cX0_init 2 s _ wsX0_init RX0 := S9
  have hx := S9.1
  have hb := S9.2.1
  have hown := S9.2.2.2.1
  have hts := S9.2.2.2.2
  replace hl : lv_has ls 2 [(0, .ref a), (1, .int k)] := hl
  refine lv_aload_n hx hb dX0_init_0 rfl (lv_at hl 0 rfl) ?_
  refine W.objInit hx hb hown (hts (.methodLink RX0 1 objectInit) (by decide +kernel)) (hts (.instanceMethod objectInit) (by decide +kernel)) (hts _ (List.mem_of_getElem? (i := 3) rfl)) rfl (hl.1.trans S9.2.2.1.symm) rfl dX0_init_1 (Nat.le_of_ble_eq_true rfl) (Nat.le_of_ble_eq_true rfl) ?_
  refine W.eq (g2 := F0 m 4 ls []) rfl ?_
  refine lv_aload_n hx hb dX0_init_4 rfl (lv_at hl 0 rfl) ?_
  refine lv_iload_n hx hb dX0_init_5 rfl (lv_at hl 1 rfl) ?_
  refine r_putF S9 w hnm ha rfl (by decide +kernel) tyX2_ok nmX2 1 (by decide) (by decide +kernel) rfl rfl rfl rfl (Nat.le_of_ble_eq_true rfl) dX0_init_6 (fun ws1 H1 lc1 u1 w1 => ?_)
  have f1 : hp ws1 a (.inr (1, [.int sz0, .int k, .null])) := u1.1
  exact ew_v S9 hr hlk w1 (u1) dX0_init_9 (by decide) (by decide)

set_option maxHeartbeats 4000000 in
set_option maxRecDepth 100000 in
theorem c_Item_init_2 (l : Launch) {G : Gt} {ws : va_W} (sz : Nat) {a : Nat} {k0 v0 : Int32} (ha : hp ws a (.inr (2, [.int k0, .int v0]))) (k : Int32) : Met l yX0_init wsX0_init ({ frames := 1, cells := 0, slots := 0, locals := 12 } : Room) (Pw G [.ref a, .int k] ws sz) (va_Qv (fun (u : va_W) => hu ws a (.inr (2, [.int k, .int v0])) u) (Bw G ws sz) (va_A ws sz)) 0 0 (va_A ws sz) := by
  refine Met_pw (cc := cX0_init) (maxL := 2) (ret := none) (by decide) rfl (Nat.le_of_ble_eq_true rfl) ?_
  intro p e s m below meth c ls hsz S9 hr hlk hnm w hl
  subst hsz
  replace S9 : CallFix p m c cX0_init 2 s _ wsX0_init RX0 := S9
  have hx := S9.1
  have hb := S9.2.1
  have hown := S9.2.2.2.1
  have hts := S9.2.2.2.2
  replace hl : lv_has ls 2 [(0, .ref a), (1, .int k)] := hl
  refine lv_aload_n hx hb dX0_init_0 rfl (lv_at hl 0 rfl) ?_
  refine W.objInit hx hb hown (hts (.methodLink RX0 1 objectInit) (by decide +kernel)) (hts (.instanceMethod objectInit) (by decide +kernel)) (hts _ (List.mem_of_getElem? (i := 3) rfl)) rfl (hl.1.trans S9.2.2.1.symm) rfl dX0_init_1 (Nat.le_of_ble_eq_true rfl) (Nat.le_of_ble_eq_true rfl) ?_
  refine W.eq (g2 := F0 m 4 ls []) rfl ?_
  refine lv_aload_n hx hb dX0_init_4 rfl (lv_at hl 0 rfl) ?_
  refine lv_iload_n hx hb dX0_init_5 rfl (lv_at hl 1 rfl) ?_
  refine r_putF S9 w hnm ha rfl (by decide +kernel) tyX4_ok nmX4 0 (by decide) (by decide +kernel) rfl rfl rfl rfl (Nat.le_of_ble_eq_true rfl) dX0_init_6 (fun ws1 H1 lc1 u1 w1 => ?_)
  have f1 : hp ws1 a (.inr (2, [.int k, .int v0])) := u1.1
  exact ew_v S9 hr hlk w1 (u1) dX0_init_9 (by decide) (by decide)

set_option maxHeartbeats 4000000 in
set_option maxRecDepth 100000 in
theorem c_Row_init_0 (l : Launch) {G : Gt} {ws : va_W} (sz : Nat) {a : Nat} {sz0 k0 : Int32} (ha : hp ws a (.inr (0, [.int sz0, .int k0, .null, .int 0, .long 0]))) (k n : Int32) : Met l yX3_init wsX3_init ({ frames := 2, cells := 0, slots := 0, locals := 33 } : Room) (Pw G [.ref a, .int k, .int n] ws sz) (va_Qv (fun (u : va_W) => hu ws a (.inr (0, [.int n, .int k, .null, .int 0, .long 0])) u) (Bw G ws sz) (va_A ws sz)) 0 0 (va_A ws sz) := by
  refine Met_pw (cc := cX3_init) (maxL := 3) (ret := none) (by decide) rfl (Nat.le_of_ble_eq_true rfl) ?_
  intro p e s m below meth c ls hsz S9 hr hlk hnm w hl
  subst hsz
  replace S9 : CallFix p m c cX3_init 3 s _ wsX3_init RX3 := S9
  have hx := S9.1
  have hb := S9.2.1
  have hown := S9.2.2.2.1
  have hts := S9.2.2.2.2
  replace hl : lv_has ls 3 [(0, .ref a), (1, .int k), (2, .int n)] := hl
  refine lv_aload_n hx hb dX3_init_0 rfl (lv_at hl 0 rfl) ?_
  refine lv_iload_n hx hb dX3_init_1 rfl (lv_at hl 1 rfl) ?_
  refine kw_iv S9 w (c_Item_init_0 l _ ha k) (cwI 1 hts gX3_init_X0_init rfl rfl rfl (hts (.initialized RX0) (by decide +kernel)) (hts (.methodLink RX3 1 yX0_init) (by decide +kernel)) (hts (.instanceMethod yX0_init) (by decide +kernel)) rfl (by decide +kernel) ⟨Nat.le_of_ble_eq_true rfl, Nat.le_of_ble_eq_true rfl⟩) rfl hl.1 rfl (Nat.le_of_ble_eq_true rfl) dX3_init_2 ⟨Nat.le_of_ble_eq_true rfl, Nat.le_of_ble_eq_true rfl⟩ (fun u8 H8 lc8 p8 w8 => ?_)
  have f8 : hp u8 a (.inr (0, [.int sz0, .int k, .null, .int 0, .long 0])) := p8.1
  refine lv_aload_n hx hb dX3_init_5 rfl (lv_at hl 0 rfl) ?_
  refine lv_iload_n hx hb dX3_init_6 rfl (lv_at hl 2 rfl) ?_
  refine r_putF S9 w8 hnm f8 rfl (by decide +kernel) tyX1_ok nmX1 0 (by decide) (by decide +kernel) rfl rfl rfl rfl (Nat.le_of_ble_eq_true rfl) dX3_init_7 (fun ws1 H1 lc1 u1 w1 => ?_)
  have f1 : hp ws1 a (.inr (0, [.int n, .int k, .null, .int 0, .long 0])) := u1.1
  exact ew_v S9 hr hlk w1 (hu_again p8 u1) dX3_init_10 (by decide) (by decide)

set_option maxHeartbeats 4000000 in
set_option maxRecDepth 100000 in
theorem c_Row_init_1 (l : Launch) {G : Gt} {ws : va_W} (sz : Nat) {a : Nat} {sz0 k0 : Int32} (ha : hp ws a (.inr (1, [.int sz0, .int k0, .null]))) (k n : Int32) : Met l yX3_init wsX3_init ({ frames := 2, cells := 0, slots := 0, locals := 33 } : Room) (Pw G [.ref a, .int k, .int n] ws sz) (va_Qv (fun (u : va_W) => hu ws a (.inr (1, [.int n, .int k, .null])) u) (Bw G ws sz) (va_A ws sz)) 0 0 (va_A ws sz) := by
  refine Met_pw (cc := cX3_init) (maxL := 3) (ret := none) (by decide) rfl (Nat.le_of_ble_eq_true rfl) ?_
  intro p e s m below meth c ls hsz S9 hr hlk hnm w hl
  subst hsz
  replace S9 : CallFix p m c cX3_init 3 s _ wsX3_init RX3 := S9
  have hx := S9.1
  have hb := S9.2.1
  have hown := S9.2.2.2.1
  have hts := S9.2.2.2.2
  replace hl : lv_has ls 3 [(0, .ref a), (1, .int k), (2, .int n)] := hl
  refine lv_aload_n hx hb dX3_init_0 rfl (lv_at hl 0 rfl) ?_
  refine lv_iload_n hx hb dX3_init_1 rfl (lv_at hl 1 rfl) ?_
  refine kw_iv S9 w (c_Item_init_1 l _ ha k) (cwI 1 hts gX3_init_X0_init rfl rfl rfl (hts (.initialized RX0) (by decide +kernel)) (hts (.methodLink RX3 1 yX0_init) (by decide +kernel)) (hts (.instanceMethod yX0_init) (by decide +kernel)) rfl (by decide +kernel) ⟨Nat.le_of_ble_eq_true rfl, Nat.le_of_ble_eq_true rfl⟩) rfl hl.1 rfl (Nat.le_of_ble_eq_true rfl) dX3_init_2 ⟨Nat.le_of_ble_eq_true rfl, Nat.le_of_ble_eq_true rfl⟩ (fun u8 H8 lc8 p8 w8 => ?_)
  have f8 : hp u8 a (.inr (1, [.int sz0, .int k, .null])) := p8.1
  refine lv_aload_n hx hb dX3_init_5 rfl (lv_at hl 0 rfl) ?_
  refine lv_iload_n hx hb dX3_init_6 rfl (lv_at hl 2 rfl) ?_
  refine r_putF S9 w8 hnm f8 rfl (by decide +kernel) tyX2_ok nmX2 0 (by decide) (by decide +kernel) rfl rfl rfl rfl (Nat.le_of_ble_eq_true rfl) dX3_init_7 (fun ws1 H1 lc1 u1 w1 => ?_)
  have f1 : hp ws1 a (.inr (1, [.int n, .int k, .null])) := u1.1
  exact ew_v S9 hr hlk w1 (hu_again p8 u1) dX3_init_10 (by decide) (by decide)

set_option maxHeartbeats 4000000 in
set_option maxRecDepth 100000 in
theorem c_Thing_init (l : Launch) {G : Gt} {ws : va_W} (sz : Nat) {a : Nat} {k0 v0 : Int32} (ha : hp ws a (.inr (2, [.int k0, .int v0]))) (k v : Int32) : Met l yX4_init wsX4_init ({ frames := 2, cells := 0, slots := 0, locals := 33 } : Room) (Pw G [.ref a, .int k, .int v] ws sz) (va_Qv (fun (u : va_W) => hu ws a (.inr (2, [.int k, .int v])) u) (Bw G ws sz) (va_A ws sz)) 0 0 (va_A ws sz) := by
  refine Met_pw (cc := cX4_init) (maxL := 3) (ret := none) (by decide) rfl (Nat.le_of_ble_eq_true rfl) ?_
  intro p e s m below meth c ls hsz S9 hr hlk hnm w hl
  subst hsz
  replace S9 : CallFix p m c cX4_init 3 s _ wsX4_init RX4 := S9
  have hx := S9.1
  have hb := S9.2.1
  have hown := S9.2.2.2.1
  have hts := S9.2.2.2.2
  replace hl : lv_has ls 3 [(0, .ref a), (1, .int k), (2, .int v)] := hl
  refine lv_aload_n hx hb dX4_init_0 rfl (lv_at hl 0 rfl) ?_
  refine lv_iload_n hx hb dX4_init_1 rfl (lv_at hl 1 rfl) ?_
  refine kw_iv S9 w (c_Item_init_2 l _ ha k) (cwI 1 hts gX4_init_X0_init rfl rfl rfl (hts (.initialized RX0) (by decide +kernel)) (hts (.methodLink RX4 1 yX0_init) (by decide +kernel)) (hts (.instanceMethod yX0_init) (by decide +kernel)) rfl (by decide +kernel) ⟨Nat.le_of_ble_eq_true rfl, Nat.le_of_ble_eq_true rfl⟩) rfl hl.1 rfl (Nat.le_of_ble_eq_true rfl) dX4_init_2 ⟨Nat.le_of_ble_eq_true rfl, Nat.le_of_ble_eq_true rfl⟩ (fun u8 H8 lc8 p8 w8 => ?_)
  have f8 : hp u8 a (.inr (2, [.int k, .int v0])) := p8.1
  refine lv_aload_n hx hb dX4_init_5 rfl (lv_at hl 0 rfl) ?_
  refine lv_iload_n hx hb dX4_init_6 rfl (lv_at hl 2 rfl) ?_
  refine r_putF S9 w8 hnm f8 rfl (by decide +kernel) tyX4_ok nmX4 1 (by decide) (by decide +kernel) rfl rfl rfl rfl (Nat.le_of_ble_eq_true rfl) dX4_init_7 (fun ws1 H1 lc1 u1 w1 => ?_)
  have f1 : hp ws1 a (.inr (2, [.int k, .int v])) := u1.1
  exact ew_v S9 hr hlk w1 (hu_again p8 u1) dX4_init_10 (by decide) (by decide)

set_option maxHeartbeats 4000000 in
set_option maxRecDepth 100000 in
theorem c_init_0 (l : Launch) {G : Gt} {ws : va_W} (sz : Nat) {a : Nat} {sz0 k0 : Int32} (ha : hp ws a (.inr (0, [.int sz0, .int k0, .null, .int 0, .long 0]))) (k : Int32) (n : Nat) (hn : n ≤ 2000) : Met l yX1_init wsX1_init ({ frames := 3, cells := 1, slots := 2000, locals := 55 } : Room) (Pw G [.ref a, .int k, .int (nI n)] ws sz) (va_Qv (fun (u : va_W) => ∃ b, nw2 ws a b (.inr (0, [.int (nI n), .int k, .ref b, .int 0, .long 0])) (aJ G n (fun _ => 0)) u) (Bw G ws sz) (va_A ws sz)) 1 2000 (va_A ws sz) := by
  refine Met_pw (cc := cX1_init) (maxL := 3) (ret := none) (by decide) rfl (Nat.le_of_ble_eq_true rfl) ?_
  intro p e s m below meth c ls hsz S9 hr hlk hnm w hl
  subst hsz
  replace S9 : CallFix p m c cX1_init 3 s _ wsX1_init RX1 := S9
  have hx := S9.1
  have hb := S9.2.1
  have hown := S9.2.2.2.1
  have hts := S9.2.2.2.2
  replace hl : lv_has ls 3 [(0, .ref a), (1, .int k), (2, .int (nI n))] := hl
  refine lv_aload_n hx hb dX1_init_0 rfl (lv_at hl 0 rfl) ?_
  refine lv_iload_n hx hb dX1_init_1 rfl (lv_at hl 1 rfl) ?_
  refine lv_iload_n hx hb dX1_init_2 rfl (lv_at hl 2 rfl) ?_
  refine kw_iv S9 w (c_Row_init_0 l _ ha k (nI n)) (cwI 2 hts gX1_init_X3_init rfl rfl rfl (hts (.initialized RX3) (by decide +kernel)) (hts (.methodLink RX1 3 yX3_init) (by decide +kernel)) (hts (.instanceMethod yX3_init) (by decide +kernel)) rfl (by decide +kernel) ⟨Nat.le_of_ble_eq_true rfl, Nat.le_of_ble_eq_true rfl⟩) rfl hl.1 rfl (Nat.le_of_ble_eq_true rfl) dX1_init_3 ⟨Nat.le_of_ble_eq_true rfl, Nat.le_of_ble_eq_true rfl⟩ (fun u8 H8 lc8 p8 w8 => ?_)
  have f8 : hp u8 a (.inr (0, [.int (nI n), .int k, .null, .int 0, .long 0])) := p8.1
  refine lv_aload_n hx hb dX1_init_6 rfl (lv_at hl 0 rfl) ?_
  refine lv_iload_n hx hb dX1_init_7 rfl (lv_at hl 2 rfl) ?_
  refine r_newJ S9 w8 (by decide +kernel) (nI_pos (by omega)) (nI_clamp (by omega)) (by omega) (Nat.le_of_ble_eq_true rfl) (show 0 + 0 + n ≤ 2000 by omega) dX1_init_8 (fun q ws9 H9 fr9 u9 w9 => ?_)
  have naq : a ≠ q := fun z => fr9 _ (by rw [← z]; exact f8)
  have f9 : hp ws9 a (.inr (0, [.int (nI n), .int k, .null, .int 0, .long 0])) := u9.keep naq f8
  refine r_putF S9 w9 hnm f9 rfl (by decide +kernel) tyX1_ok nmX1 2 (by decide) (by decide +kernel) rfl rfl rfl rfl (Nat.le_of_ble_eq_true rfl) dX1_init_10 (fun ws1 H1 lc1 u1 w1 => ?_)
  have f1 : hp ws1 a (.inr (0, [.int (nI n), .int k, .ref q, .int 0, .long 0])) := u1.1
  exact ew_v S9 hr hlk w1 (⟨q, u1.1, u1.keep naq.symm u9.1, naq, fun e he => fr9 e ((p8.2 q e naq.symm).mpr he), fun c9 e h1 h2 => (u1.2 c9 e h1).trans ((u9.2 c9 e h2).trans (p8.2 c9 e h1))⟩) dX1_init_13 (by decide) (show 0 + 0 + n ≤ 2000 by omega)

set_option maxHeartbeats 4000000 in
set_option maxRecDepth 100000 in
theorem c_init_1 (l : Launch) {G : Gt} {ws : va_W} (sz : Nat) {a : Nat} {sz0 k0 : Int32} (ha : hp ws a (.inr (1, [.int sz0, .int k0, .null]))) (k : Int32) (n : Nat) (hn : n ≤ 2000) : Met l yX2_init wsX2_init ({ frames := 3, cells := 1, slots := 2000, locals := 55 } : Room) (Pw G [.ref a, .int k, .int (nI n)] ws sz) (va_Qv (fun (u : va_W) => ∃ b, nw2 ws a b (.inr (1, [.int (nI n), .int k, .ref b])) (aT G n (fun _ => none)) u) (Bw G ws sz) (va_A ws sz)) 1 2000 (va_A ws sz) := by
  refine Met_pw (cc := cX2_init) (maxL := 3) (ret := none) (by decide) rfl (Nat.le_of_ble_eq_true rfl) ?_
  intro p e s m below meth c ls hsz S9 hr hlk hnm w hl
  subst hsz
  replace S9 : CallFix p m c cX2_init 3 s _ wsX2_init RX2 := S9
  have hx := S9.1
  have hb := S9.2.1
  have hown := S9.2.2.2.1
  have hts := S9.2.2.2.2
  replace hl : lv_has ls 3 [(0, .ref a), (1, .int k), (2, .int (nI n))] := hl
  refine lv_aload_n hx hb dX2_init_0 rfl (lv_at hl 0 rfl) ?_
  refine lv_iload_n hx hb dX2_init_1 rfl (lv_at hl 1 rfl) ?_
  refine lv_iload_n hx hb dX2_init_2 rfl (lv_at hl 2 rfl) ?_
  refine kw_iv S9 w (c_Row_init_1 l _ ha k (nI n)) (cwI 2 hts gX2_init_X3_init rfl rfl rfl (hts (.initialized RX3) (by decide +kernel)) (hts (.methodLink RX2 3 yX3_init) (by decide +kernel)) (hts (.instanceMethod yX3_init) (by decide +kernel)) rfl (by decide +kernel) ⟨Nat.le_of_ble_eq_true rfl, Nat.le_of_ble_eq_true rfl⟩) rfl hl.1 rfl (Nat.le_of_ble_eq_true rfl) dX2_init_3 ⟨Nat.le_of_ble_eq_true rfl, Nat.le_of_ble_eq_true rfl⟩ (fun u8 H8 lc8 p8 w8 => ?_)
  have f8 : hp u8 a (.inr (1, [.int (nI n), .int k, .null])) := p8.1
  refine lv_aload_n hx hb dX2_init_6 rfl (lv_at hl 0 rfl) ?_
  refine lv_iload_n hx hb dX2_init_7 rfl (lv_at hl 2 rfl) ?_
  refine r_newT S9 w8 (by decide +kernel) (nI_pos (by omega)) (nI_clamp (by omega)) (by omega) (Nat.le_of_ble_eq_true rfl) (show 0 + 0 + n ≤ 2000 by omega) dX2_init_8 (fun q ws9 H9 fr9 u9 w9 => ?_)
  have naq : a ≠ q := fun z => fr9 _ (by rw [← z]; exact f8)
  have f9 : hp ws9 a (.inr (1, [.int (nI n), .int k, .null])) := u9.keep naq f8
  refine r_putF S9 w9 hnm f9 rfl (by decide +kernel) tyX2_ok nmX2 2 (by decide) (by decide +kernel) rfl rfl rfl rfl (Nat.le_of_ble_eq_true rfl) dX2_init_11 (fun ws1 H1 lc1 u1 w1 => ?_)
  have f1 : hp ws1 a (.inr (1, [.int (nI n), .int k, .ref q])) := u1.1
  exact ew_v S9 hr hlk w1 (⟨q, u1.1, u1.keep naq.symm u9.1, naq, fun e he => fr9 e ((p8.2 q e naq.symm).mpr he), fun c9 e h1 h2 => (u1.2 c9 e h1).trans ((u9.2 c9 e h2).trans (p8.2 c9 e h1))⟩) dX2_init_14 (by decide) (show 0 + 0 + n ≤ 2000 by omega)

set_option maxHeartbeats 4000000 in
set_option maxRecDepth 100000 in
theorem c_newThing (l : Launch) {G : Gt} {ws : va_W} (sz : Nat) {x sh li : Nat} {ad ar : Nat → Nat} {S : St} (hR : RpX G x sh li ad ar S ws) (hI : Inv S) (k : Nat) (hk : 7 ≤ k) (hk8 : k ≤ 8) (v : Int32) : Met l yX5_newThing wsX5_newThing ({ frames := 3, cells := 1, slots := 2, locals := 55 } : Room) (Pw G [.ref x, .int (nI k), .int v] ws sz) (va_Qi (fun (r : Int32) (u : va_W) => r = (sp_thing S k v).1 ∧ ∃ ad2 ar2, RpX G x sh li ad2 ar2 (sp_thing S k v).2 u) (Bw G ws sz) (va_A ws sz)) 1 2 (va_A ws sz) := by
  refine Met_pw (cc := cX5_newThing) (maxL := 4) (ret := (some .int)) (by decide) rfl (Nat.le_of_ble_eq_true rfl) ?_
  intro p e s m below meth c ls hsz S9 hr hlk hnm w hl
  subst hsz
  replace S9 : CallFix p m c cX5_newThing 4 s _ wsX5_newThing RX5 := S9
  have hx := S9.1
  have hb := S9.2.1
  have hown := S9.2.2.2.1
  have hts := S9.2.2.2.2
  replace hl : lv_has ls 4 [(0, .ref x), (1, .int (nI k)), (2, .int v)] := hl
  refine lv_aload_n hx hb dX5_newThing_0 rfl (lv_at hl 0 rfl) ?_
  refine kx_low S9 w hR gX5_newThing_X5_lowestEmptyPlace hl.1 (Nat.le_of_ble_eq_true rfl) dX5_newThing_1 ⟨Nat.le_of_ble_eq_true rfl, Nat.le_of_ble_eq_true rfl⟩ ⟨Nat.le_of_ble_eq_true rfl, Nat.le_of_ble_eq_true rfl⟩ (fun v7 e7 => ?_)
  refine lv_istore_n (lv' := [(3, .int v7), (0, .ref x), (1, .int (nI k)), (2, .int v)]) hx hb dX5_newThing_4 rfl hl (by decide) rfl (fun ls hl => ?_)
  refine lv_iload_n hx hb dX5_newThing_5 rfl (lv_at hl 0 rfl) ?_
  refine lv_iconst (v := (-1)) hx hb dX5_newThing_6 (by decide) ?_
  refine lv_icmp_eq (tgt := 18) hx hb dX5_newThing_7 (by decide) (fun c_7 => ?_) (fun c_7 => ?_)
  · refine lv_bipush (v := (-2)) hx hb dX5_newThing_18 (by decide) ?_
    exact ew_i S9 hr hlk w (by cases hq : lowE S with | none => (rw [show sp_thing S k v = (-2, S) from by simp only [sp_thing, hq]]; exact ⟨rfl, ad, ar, hR⟩) | some p4 => (have hp5 := lowE_lt hq; rw [hq] at e7; rw [e7] at c_7; exact absurd c_7 (pI_ne hp5.1))) dX5_newThing_20 (by decide) (by decide)
  · refine lv_aload_n hx hb dX5_newThing_10 rfl (lv_at hl 1 rfl) ?_
    refine r_get (ref := "SpanMover") S9 w hR.1 rfl (by decide +kernel) 3 (by decide) (by decide +kernel) (Or.inl rfl) rfl dX5_newThing_11 ?_
    refine lv_iconst (v := 1) hx hb dX5_newThing_14 (by decide) ?_
    refine lv_icmp_ge (tgt := 21) hx hb dX5_newThing_15 (by decide) (fun c_15 => ?_) (fun c_15 => ?_)
    · refine lv_aload_n hx hb dX5_newThing_21 rfl (lv_at hl 1 rfl) ?_
      refine lv_dup hx hb dX5_newThing_22 rfl ?_
      refine r_get (ref := "SpanMover") S9 w hR.1 rfl (by decide +kernel) 3 (by decide) (by decide +kernel) (Or.inl rfl) rfl dX5_newThing_23 ?_
      refine lv_iconst (v := 1) hx hb dX5_newThing_26 (by decide) ?_
      refine lv_isub hx hb dX5_newThing_27 ?_
      refine lv_topi (fun v1 ev1 => ?_)
      refine r_put (ref := "SpanMover") S9 w hR.1 rfl (by decide +kernel) tyX5_ok nmX5 3 (by decide) (by decide +kernel) (Or.inl rfl) rfl rfl rfl (Nat.le_of_ble_eq_true rfl) dX5_newThing_28 (fun ws8 H8 lc8 u8 w8 => ?_)
      have hR8 := RpX.sc w.2.1 hR u8 (oX_set sh li (s_c S) 1 (by decide) v1)
      replace hR8 : RpX G x sh li ad ar (s_u S, s_o S, s_s S, s_l S, upd (s_c S) 1 v1) ws8 := hR8
      have hx8 : hp ws8 x (.inr (3, [.ref sh, .ref li, .int (s_c S 0), .int v1, .int (s_c S 2), .int (s_c S 3), .int (s_c S 4), .int (s_c S 5), .int (s_c S 6)])) := hR8.1
      refine lv_aload_n hx hb dX5_newThing_31 rfl (lv_at hl 1 rfl) ?_
      refine r_get (ref := "SpanMover") S9 w8 hx8 rfl (by decide +kernel) 0 (by decide) (by decide +kernel) (Or.inl rfl) rfl dX5_newThing_32 ?_
      refine lv_iload_n hx hb dX5_newThing_35 rfl (lv_at hl 0 rfl) ?_
      refine r_new (ci := 2) (fs := [.int 0, .int 0]) S9 w8 rfl (by decide +kernel) tyX4_ok (by decide +kernel) (fun j hj => by rcases (show j = 0 ∨ j = 1 by omega) with rfl | rfl <;> rfl) (Nat.le_of_ble_eq_true rfl) (Nat.le_of_ble_eq_true rfl) dX5_newThing_36 (fun q ws12 H12 fr12 u12 w12 => ?_)
      refine lv_dup hx hb dX5_newThing_39 rfl ?_
      refine lv_iload_n hx hb dX5_newThing_40 rfl (lv_at hl 2 rfl) ?_
      refine lv_iload_n hx hb dX5_newThing_41 rfl (lv_at hl 3 rfl) ?_
      refine kw_iv S9 w12 (c_Thing_init l _ u12.1 (nI k) v) (cwI 2 hts gX5_newThing_X4_init rfl rfl rfl (hts (.initialized RX4) (by decide +kernel)) (hts (.methodLink RX5 131 yX4_init) (by decide +kernel)) (hts (.instanceMethod yX4_init) (by decide +kernel)) rfl (by decide +kernel) ⟨Nat.le_of_ble_eq_true rfl, Nat.le_of_ble_eq_true rfl⟩) rfl hl.1 rfl (Nat.le_of_ble_eq_true rfl) dX5_newThing_42 ⟨Nat.le_of_ble_eq_true rfl, Nat.le_of_ble_eq_true rfl⟩ (fun u13 H13 lc13 p13 w13 => ?_)
      have v13 := hu_again u12 p13
      obtain ⟨p4, hp4⟩ : ∃ p4, lowE S = some p4 := by
        cases hq : lowE S with
        | none => rw [hq] at e7; exact absurd e7 c_7
        | some p4 => exact ⟨p4, rfl⟩
      have hp5 := lowE_lt hp4
      have e8 : v7 = nI p4 := by rw [e7, hp4]; rfl
      have nsh : sh ≠ q := fun z => fr12 _ (by rw [← z]; exact hR8.2.1)
      refine r_aast (r := some q) S9 w13 (v13.keep nsh hR8.2.1) (fun z hz => by cases hz; exact w13.any v13.1 (by decide)) (by rw [e8]; exact vp_in_nI hp5.1 (by decide)) dX5_newThing_45 (fun ws14 H14 lc14 u14 w14 => ?_)
      rw [cl_nI e8 (by omega)] at u14
      have hR14 := RpX.new (o := (k, 0, v, fun _ => 0, fun _ => none)) (a := q) (b := 0) (pl := p4) hI w8.2.1 hR8 fr12 (fun z => absurd (show k ≤ 6 from z) (by omega)) (by rw [o_thg (o := (k, 0, v, fun _ => 0, fun _ => none)) hk]; exact u14.keep nsh.symm v13.1) (fun z => absurd (show k ≤ 3 from z) (by omega)) (fun _ z => absurd (show k ≤ 6 from z) (by omega)) rfl u14.1 (fun c9 e9 h1 _ h3 => (u14.2 c9 e9 h3).trans (v13.2 c9 e9 h1))
      refine lv_iload_n hx hb dX5_newThing_46 rfl (lv_at hl 0 rfl) ?_
      exact ew_i S9 hr hlk w14 (by rw [show sp_thing S k v = (v7, s_new S p4 (k, 0, v, fun _ => 0, fun _ => none) v1) from by rw [e8, ev1]; simp only [sp_thing, hp4]; rw [if_neg (by rw [ii_lt]; rw [ii_le] at c_15; omega)]]; exact ⟨rfl, _, _, hR14⟩) dX5_newThing_47 (by decide) (by decide)
    · refine lv_bipush (v := (-2)) hx hb dX5_newThing_18 (by decide) ?_
      exact ew_i S9 hr hlk w (by cases hq : lowE S with | none => (rw [hq] at e7; exact absurd e7 c_7) | some p4 => (rw [show sp_thing S k v = (-2, S) from by simp only [sp_thing, hq]; rw [if_pos (by rw [ii_lt]; rw [ii_le] at c_15; omega)]]; exact ⟨rfl, ad, ar, hR⟩)) dX5_newThing_20 (by decide) (by decide)

set_option maxHeartbeats 4000000 in
set_option maxRecDepth 100000 in
theorem c_mark (l : Launch) {G : Gt} {ws : va_W} (sz : Nat) {x sh li : Nat} {ad ar : Nat → Nat} {S : St} (hR : RpX G x sh li ad ar S ws) (hI : Inv S) (v : Int32) : Met l yX5_mark wsX5_mark ({ frames := 4, cells := 1, slots := 2, locals := 78 } : Room) (Pw G [.ref x, .int v] ws sz) (va_Qi (fun (r : Int32) (u : va_W) => r = (sp_thing S 7 v).1 ∧ ∃ ad2 ar2, RpX G x sh li ad2 ar2 (sp_thing S 7 v).2 u) (Bw G ws sz) (va_A ws sz)) 1 2 (va_A ws sz) := by
  refine Met_pw (cc := cX5_mark) (maxL := 2) (ret := (some .int)) (by decide) rfl (Nat.le_of_ble_eq_true rfl) ?_
  intro p e s m below meth c ls hsz S9 hr hlk hnm w hl
  subst hsz
  replace S9 : CallFix p m c cX5_mark 2 s _ wsX5_mark RX5 := S9
  have hx := S9.1
  have hb := S9.2.1
  have hown := S9.2.2.2.1
  have hts := S9.2.2.2.2
  replace hl : lv_has ls 2 [(0, .ref x), (1, .int v)] := hl
  refine lv_aload_n hx hb dX5_mark_0 rfl (lv_at hl 0 rfl) ?_
  refine lv_bipush (v := 7) hx hb dX5_mark_1 (by decide) ?_
  refine lv_iload_n hx hb dX5_mark_3 rfl (lv_at hl 1 rfl) ?_
  refine kw_vi S9 w (c_newThing l _ hR hI 7 (by decide) (by decide) v) hR.1 rfl (cwV 2 hts gX5_mark_X5_newThing rfl rfl rfl (by decide +kernel) ⟨Nat.le_of_ble_eq_true rfl, Nat.le_of_ble_eq_true rfl⟩) rfl hl.1 rfl (Nat.le_of_ble_eq_true rfl) dX5_mark_4 ⟨Nat.le_of_ble_eq_true rfl, Nat.le_of_ble_eq_true rfl⟩ (fun v12 u12 H12 lc12 p12 w12 => ?_)
  exact ew_i S9 hr hlk w12 (p12) dX5_mark_7 (by decide) (by decide)

set_option maxHeartbeats 4000000 in
set_option maxRecDepth 100000 in
theorem c_seal (l : Launch) {G : Gt} {ws : va_W} (sz : Nat) {x sh li : Nat} {ad ar : Nat → Nat} {S : St} (hR : RpX G x sh li ad ar S ws) (hI : Inv S) (v : Int32) : Met l yX5_seal wsX5_seal ({ frames := 4, cells := 1, slots := 2, locals := 78 } : Room) (Pw G [.ref x, .int v] ws sz) (va_Qi (fun (r : Int32) (u : va_W) => r = (sp_thing S 8 v).1 ∧ ∃ ad2 ar2, RpX G x sh li ad2 ar2 (sp_thing S 8 v).2 u) (Bw G ws sz) (va_A ws sz)) 1 2 (va_A ws sz) := by
  refine Met_pw (cc := cX5_seal) (maxL := 2) (ret := (some .int)) (by decide) rfl (Nat.le_of_ble_eq_true rfl) ?_
  intro p e s m below meth c ls hsz S9 hr hlk hnm w hl
  subst hsz
  replace S9 : CallFix p m c cX5_seal 2 s _ wsX5_seal RX5 := S9
  have hx := S9.1
  have hb := S9.2.1
  have hown := S9.2.2.2.1
  have hts := S9.2.2.2.2
  replace hl : lv_has ls 2 [(0, .ref x), (1, .int v)] := hl
  refine lv_aload_n hx hb dX5_seal_0 rfl (lv_at hl 0 rfl) ?_
  refine lv_bipush (v := 8) hx hb dX5_seal_1 (by decide) ?_
  refine lv_iload_n hx hb dX5_seal_3 rfl (lv_at hl 1 rfl) ?_
  refine kw_vi S9 w (c_newThing l _ hR hI 8 (by decide) (by decide) v) hR.1 rfl (cwV 2 hts gX5_seal_X5_newThing rfl rfl rfl (by decide +kernel) ⟨Nat.le_of_ble_eq_true rfl, Nat.le_of_ble_eq_true rfl⟩) rfl hl.1 rfl (Nat.le_of_ble_eq_true rfl) dX5_seal_4 ⟨Nat.le_of_ble_eq_true rfl, Nat.le_of_ble_eq_true rfl⟩ (fun v12 u12 H12 lc12 p12 w12 => ?_)
  exact ew_i S9 hr hlk w12 (p12) dX5_seal_7 (by decide) (by decide)

set_option maxHeartbeats 4000000 in
set_option maxRecDepth 100000 in
theorem c_row (l : Launch) {G : Gt} {ws : va_W} (sz : Nat) {x sh li : Nat} {ad ar : Nat → Nat} {S : St} (hR : RpX G x sh li ad ar S ws) (hI : Inv S) (k n : Int32) : Met l yX5_row wsX5_row ({ frames := 4, cells := 2, slots := 2005, locals := 77 } : Room) (Pw G [.ref x, .int k, .int n] ws sz) (va_Qi (fun (r : Int32) (u : va_W) => r = (sp_row S k n).1 ∧ ∃ ad2 ar2, RpX G x sh li ad2 ar2 (sp_row S k n).2 u) (Bw G ws sz) (va_A ws sz)) 2 2005 (va_A ws sz) := by
  refine Met_pw (cc := cX5_row) (maxL := 4) (ret := (some .int)) (by decide) rfl (Nat.le_of_ble_eq_true rfl) ?_
  intro p e s m below meth c ls hsz S9 hr hlk hnm w hl
  subst hsz
  replace S9 : CallFix p m c cX5_row 4 s _ wsX5_row RX5 := S9
  have hx := S9.1
  have hb := S9.2.1
  have hown := S9.2.2.2.1
  have hts := S9.2.2.2.2
  replace hl : lv_has ls 4 [(0, .ref x), (1, .int k), (2, .int n)] := hl
  refine lv_iload_n hx hb dX5_row_0 rfl (lv_at hl 1 rfl) ?_
  refine lv_if_lt (tgt := 10) hx hb dX5_row_1 (by decide) (fun c_1 => ?_) (fun c_1 => ?_)
  · refine lv_iconst (v := (-1)) hx hb dX5_row_10 (by decide) ?_
    exact ew_i S9 hr hlk w (by rw [show sp_row S k n = (-1, S) from by unfold sp_row; rw [if_pos c_1]]; exact ⟨rfl, ad, ar, hR⟩) dX5_row_11 (by decide) (by decide)
  · refine lv_iload_n hx hb dX5_row_4 rfl (lv_at hl 1 rfl) ?_
    refine lv_bipush (v := 6) hx hb dX5_row_5 (by decide) ?_
    refine lv_icmp_le (tgt := 12) hx hb dX5_row_7 (by decide) (fun c_7 => ?_) (fun c_7 => ?_)
    · refine lv_aload_n hx hb dX5_row_12 rfl (lv_at hl 0 rfl) ?_
      refine kx_low S9 w hR gX5_row_X5_lowestEmptyPlace hl.1 (Nat.le_of_ble_eq_true rfl) dX5_row_13 ⟨Nat.le_of_ble_eq_true rfl, Nat.le_of_ble_eq_true rfl⟩ ⟨Nat.le_of_ble_eq_true rfl, Nat.le_of_ble_eq_true rfl⟩ (fun v7 e7 => ?_)
      refine lv_istore_n (lv' := [(3, .int v7), (0, .ref x), (1, .int k), (2, .int n)]) hx hb dX5_row_16 rfl hl (by decide) rfl (fun ls hl => ?_)
      refine lv_iload_n hx hb dX5_row_17 rfl (lv_at hl 3 rfl) ?_
      refine lv_sipush (v := 2000) hx hb dX5_row_18 (by decide) ?_
      refine lv_icmp_gt (tgt := 39) hx hb dX5_row_21 (by decide) (fun c_21 => ?_) (fun c_21 => ?_)
      · refine lv_bipush (v := (-2)) hx hb dX5_row_39 (by decide) ?_
        exact ew_i S9 hr hlk w (by rw [show sp_row S k n = (-2, S) from by unfold sp_row; rw [if_neg c_1, if_neg (by rw [ii_lt]; rw [ii_le] at c_7; omega), if_pos c_21]]; exact ⟨rfl, ad, ar, hR⟩) dX5_row_41 (by decide) (by decide)
      · refine lv_iload_n hx hb dX5_row_24 rfl (lv_at hl 0 rfl) ?_
        refine lv_iconst (v := (-1)) hx hb dX5_row_25 (by decide) ?_
        refine lv_icmp_eq (tgt := 39) hx hb dX5_row_26 (by decide) (fun c_26 => ?_) (fun c_26 => ?_)
        · refine lv_bipush (v := (-2)) hx hb dX5_row_39 (by decide) ?_
          exact ew_i S9 hr hlk w (by rw [show sp_row S k n = (-2, S) from by cases hq : lowE S with | none => (unfold sp_row; rw [if_neg c_1, if_neg (by rw [ii_lt]; rw [ii_le] at c_7; omega), if_neg c_21]; simp only [hq]) | some p4 => (have hp5 := lowE_lt hq; rw [hq] at e7; rw [e7] at c_26; exact absurd c_26 (pI_ne hp5.1))]; exact ⟨rfl, ad, ar, hR⟩) dX5_row_41 (by decide) (by decide)
        · refine lv_aload_n hx hb dX5_row_29 rfl (lv_at hl 1 rfl) ?_
          refine r_get (ref := "SpanMover") S9 w hR.1 rfl (by decide +kernel) 3 (by decide) (by decide +kernel) (Or.inl rfl) rfl dX5_row_30 ?_
          refine lv_iload_n hx hb dX5_row_33 rfl (lv_at hl 3 rfl) ?_
          refine lv_iconst (v := 1) hx hb dX5_row_34 (by decide) ?_
          refine lv_iadd hx hb dX5_row_35 ?_
          refine lv_topi (fun v1 ev1 => ?_)
          refine lv_icmp_ge (tgt := 42) hx hb dX5_row_36 (by decide) (fun c_36 => ?_) (fun c_36 => ?_)
          · refine lv_iload_n hx hb dX5_row_42 rfl (lv_at hl 3 rfl) ?_
            refine lv_if_ge (tgt := 49) hx hb dX5_row_43 (by decide) (fun c_43 => ?_) (fun c_43 => ?_)
            · refine lv_aload_n hx hb dX5_row_49 rfl (lv_at hl 1 rfl) ?_
              refine lv_dup hx hb dX5_row_50 rfl ?_
              refine r_get (ref := "SpanMover") S9 w hR.1 rfl (by decide +kernel) 3 (by decide) (by decide +kernel) (Or.inl rfl) rfl dX5_row_51 ?_
              refine lv_iload_n hx hb dX5_row_54 rfl (lv_at hl 3 rfl) ?_
              refine lv_iconst (v := 1) hx hb dX5_row_55 (by decide) ?_
              refine lv_iadd hx hb dX5_row_56 ?_
              refine lv_topi (fun v2 ev2 => ?_)
              refine lv_isub hx hb dX5_row_57 ?_
              refine lv_topi (fun v3 ev3 => ?_)
              refine r_put (ref := "SpanMover") S9 w hR.1 rfl (by decide +kernel) tyX5_ok nmX5 3 (by decide) (by decide +kernel) (Or.inl rfl) rfl rfl rfl (Nat.le_of_ble_eq_true rfl) dX5_row_58 (fun ws8 H8 lc8 u8 w8 => ?_)
              have hR8 := RpX.sc w.2.1 hR u8 (oX_set sh li (s_c S) 1 (by decide) v3)
              replace hR8 : RpX G x sh li ad ar (s_u S, s_o S, s_s S, s_l S, upd (s_c S) 1 v3) ws8 := hR8
              have hx8 : hp ws8 x (.inr (3, [.ref sh, .ref li, .int (s_c S 0), .int v3, .int (s_c S 2), .int (s_c S 3), .int (s_c S 4), .int (s_c S 5), .int (s_c S 6)])) := hR8.1
              obtain ⟨k', hk', rfl⟩ : ∃ k' : Nat, k' < 2 ^ 31 ∧ k = nI k' := nI_of c_1
              have hk6 : k' ≤ 6 := (nI_leI (b := 6) hk' (by decide)).mp c_7
              obtain ⟨n', hn', rfl⟩ : ∃ n' : Nat, n' < 2 ^ 31 ∧ n = nI n' := nI_of (by rw [ii_lt]; rw [ii_le] at c_43; omega)
              have hn2 : n' ≤ 2000 := by
                have : ¬ 2000 < n' := fun q => c_21 ((nI_ltI (a := 2000) (by decide) hn').mpr q)
                omega
              refine lv_aload_n hx hb dX5_row_61 rfl (lv_at hl 1 rfl) ?_
              refine r_get (ref := "SpanMover") S9 w8 hx8 rfl (by decide +kernel) 0 (by decide) (by decide +kernel) (Or.inl rfl) rfl dX5_row_62 ?_
              refine lv_iload_n hx hb dX5_row_65 rfl (lv_at hl 0 rfl) ?_
              refine lv_iload_n hx hb dX5_row_66 rfl (lv_at hl 2 rfl) ?_
              refine lv_iconst (v := 3) hx hb dX5_row_67 (by decide) ?_
              refine lv_icmp_gt (tgt := 83) hx hb dX5_row_68 (by decide) (fun c_68 => ?_) (fun c_68 => ?_)
              · refine r_new (ci := 1) (fs := [.int 0, .int 0, .null]) S9 w8 rfl (by decide +kernel) tyX2_ok (by decide +kernel) (fun j hj => by rcases (show j = 0 ∨ j = 1 ∨ j = 2 by omega) with rfl | rfl | rfl <;> rfl) (Nat.le_of_ble_eq_true rfl) (Nat.le_of_ble_eq_true rfl) dX5_row_83 (fun q ws12 H12 fr12 u12 w12 => ?_)
                refine lv_dup hx hb dX5_row_86 rfl ?_
                refine lv_iload_n hx hb dX5_row_87 rfl (lv_at hl 2 rfl) ?_
                refine lv_iload_n hx hb dX5_row_88 rfl (lv_at hl 3 rfl) ?_
                refine kw_iv S9 w12 (c_init_1 l _ u12.1 (nI k') n' hn2) (cwI 2 hts gX5_row_X2_init rfl rfl rfl (hts (.initialized RX2) (by decide +kernel)) (hts (.methodLink RX5 53 yX2_init) (by decide +kernel)) (hts (.instanceMethod yX2_init) (by decide +kernel)) rfl (by decide +kernel) ⟨Nat.le_of_ble_eq_true rfl, Nat.le_of_ble_eq_true rfl⟩) rfl hl.1 rfl (Nat.le_of_ble_eq_true rfl) dX5_row_89 ⟨Nat.le_of_ble_eq_true rfl, Nat.le_of_ble_eq_true rfl⟩ (fun u13 H13 lc13 p13 w13 => ?_)
                obtain ⟨b, b1, b2, b3, b4, b5⟩ := p13
                obtain ⟨p4, hp4⟩ : ∃ p4, lowE S = some p4 := by
                  cases hq : lowE S with
                  | none => rw [hq] at e7; exact absurd e7 c_26
                  | some p4 => exact ⟨p4, rfl⟩
                have hp5 := lowE_lt hp4
                have e8 : v7 = nI p4 := by rw [e7, hp4]; rfl
                have nsh : sh ≠ q := fun z => fr12 _ (by rw [← z]; exact hR8.2.1)
                have nbs : sh ≠ b := fun z => b4 _ (by rw [← z]; exact u12.keep nsh hR8.2.1)
                have fb : ∀ e, ¬ hp ws8 b e := fun e9 h9 => b4 e9 (u12.keep b3.symm h9)
                refine r_aast (r := some q) S9 w13 ((b5 sh _ nsh nbs).mpr (u12.keep nsh hR8.2.1)) (fun z hz => by cases hz; exact w13.any b1 (by decide)) (by rw [e8]; exact vp_in_nI hp5.1 (by decide)) dX5_row_92 (fun ws14 H14 lc14 u14 w14 => ?_)
                rw [cl_nI e8 (by omega)] at u14
                have hk3 : 4 ≤ k' := by have := (nI_ltI (a := 3) (by decide) hk').mp c_68; omega
                have hR14 := RpX.new (o := (k', n', 0, fun _ => 0, fun _ => none)) (a := q) (b := b) (pl := p4) hI w8.2.1 hR8 fr12 (fun _ => ⟨b3, fb⟩) (by rw [o_obj (o := (k', n', 0, fun _ => 0, fun _ => none)) hk3 hk6]; exact u14.keep nsh.symm b1) (fun z => absurd (show k' ≤ 3 from z) (by omega)) (fun _ _ => u14.keep nbs.symm b2) rfl u14.1 (fun c9 e9 h1 h2 h3 => (u14.2 c9 e9 h3).trans ((b5 c9 e9 h1 (h2 hk6)).trans (u12.2 c9 e9 h1)))
                refine lv_iload_n hx hb dX5_row_93 rfl (lv_at hl 0 rfl) ?_
                exact ew_i S9 hr hlk w14 (by rw [show sp_row S (nI k') (nI n') = (v7, s_new S p4 (k', n', 0, fun _ => 0, fun _ => none) v3) from by unfold sp_row; rw [if_neg c_1, if_neg (by rw [ii_lt]; rw [ii_le] at c_7; omega), if_neg c_21]; simp only [hp4]; rw [if_neg (by rw [ii_lt]; rw [ii_le, ev1] at c_36; omega), if_neg (by rw [ii_lt]; rw [ii_le] at c_43; omega), e8, nI_clamp hk', nI_clamp hn', ev3, ev2]]; exact ⟨rfl, _, _, hR14⟩) dX5_row_94 (by decide) (by decide)
              · refine r_new (ci := 0) (fs := [.int 0, .int 0, .null, .int 0, .long 0]) S9 w8 rfl (by decide +kernel) tyX1_ok (by decide +kernel) (fun j hj => by rcases (show j = 0 ∨ j = 1 ∨ j = 2 ∨ j = 3 ∨ j = 4 by omega) with rfl | rfl | rfl | rfl | rfl <;> rfl) (Nat.le_of_ble_eq_true rfl) (Nat.le_of_ble_eq_true rfl) dX5_row_71 (fun q ws12 H12 fr12 u12 w12 => ?_)
                refine lv_dup hx hb dX5_row_74 rfl ?_
                refine lv_iload_n hx hb dX5_row_75 rfl (lv_at hl 2 rfl) ?_
                refine lv_iload_n hx hb dX5_row_76 rfl (lv_at hl 3 rfl) ?_
                refine kw_iv S9 w12 (c_init_0 l _ u12.1 (nI k') n' hn2) (cwI 2 hts gX5_row_X1_init rfl rfl rfl (hts (.initialized RX1) (by decide +kernel)) (hts (.methodLink RX5 48 yX1_init) (by decide +kernel)) (hts (.instanceMethod yX1_init) (by decide +kernel)) rfl (by decide +kernel) ⟨Nat.le_of_ble_eq_true rfl, Nat.le_of_ble_eq_true rfl⟩) rfl hl.1 rfl (Nat.le_of_ble_eq_true rfl) dX5_row_77 ⟨Nat.le_of_ble_eq_true rfl, Nat.le_of_ble_eq_true rfl⟩ (fun u13 H13 lc13 p13 w13 => ?_)
                obtain ⟨b, b1, b2, b3, b4, b5⟩ := p13
                refine lv_goto (tgt := 92) hx hb dX5_row_80 (by decide) ?_
                obtain ⟨p4, hp4⟩ : ∃ p4, lowE S = some p4 := by
                  cases hq : lowE S with
                  | none => rw [hq] at e7; exact absurd e7 c_26
                  | some p4 => exact ⟨p4, rfl⟩
                have hp5 := lowE_lt hp4
                have e8 : v7 = nI p4 := by rw [e7, hp4]; rfl
                have nsh : sh ≠ q := fun z => fr12 _ (by rw [← z]; exact hR8.2.1)
                have nbs : sh ≠ b := fun z => b4 _ (by rw [← z]; exact u12.keep nsh hR8.2.1)
                have fb : ∀ e, ¬ hp ws8 b e := fun e9 h9 => b4 e9 (u12.keep b3.symm h9)
                refine r_aast (r := some q) S9 w13 ((b5 sh _ nsh nbs).mpr (u12.keep nsh hR8.2.1)) (fun z hz => by cases hz; exact w13.any b1 (by decide)) (by rw [e8]; exact vp_in_nI hp5.1 (by decide)) dX5_row_92 (fun ws14 H14 lc14 u14 w14 => ?_)
                rw [cl_nI e8 (by omega)] at u14
                have hk3 : k' ≤ 3 := by have : ¬ 3 < k' := fun q => c_68 ((nI_ltI (a := 3) (by decide) hk').mpr q); omega
                have hR14 := RpX.new (o := (k', n', 0, fun _ => 0, fun _ => none)) (a := q) (b := b) (pl := p4) hI w8.2.1 hR8 fr12 (fun _ => ⟨b3, fb⟩) (by rw [o_num (o := (k', n', 0, fun _ => 0, fun _ => none)) hk3]; exact u14.keep nsh.symm b1) (fun _ => u14.keep nbs.symm b2) (fun z => absurd (show 4 ≤ k' from z) (by omega)) rfl u14.1 (fun c9 e9 h1 h2 h3 => (u14.2 c9 e9 h3).trans ((b5 c9 e9 h1 (h2 hk6)).trans (u12.2 c9 e9 h1)))
                refine lv_iload_n hx hb dX5_row_93 rfl (lv_at hl 0 rfl) ?_
                exact ew_i S9 hr hlk w14 (by rw [show sp_row S (nI k') (nI n') = (v7, s_new S p4 (k', n', 0, fun _ => 0, fun _ => none) v3) from by unfold sp_row; rw [if_neg c_1, if_neg (by rw [ii_lt]; rw [ii_le] at c_7; omega), if_neg c_21]; simp only [hp4]; rw [if_neg (by rw [ii_lt]; rw [ii_le, ev1] at c_36; omega), if_neg (by rw [ii_lt]; rw [ii_le] at c_43; omega), e8, nI_clamp hk', nI_clamp hn', ev3, ev2]]; exact ⟨rfl, _, _, hR14⟩) dX5_row_94 (by decide) (by decide)
            · refine lv_bipush (v := (-3)) hx hb dX5_row_46 (by decide) ?_
              exact ew_i S9 hr hlk w (by rw [show sp_row S k n = (-3, S) from by cases hq : lowE S with | none => (rw [hq] at e7; exact absurd e7 c_26) | some p4 => (unfold sp_row; rw [if_neg c_1, if_neg (by rw [ii_lt]; rw [ii_le] at c_7; omega), if_neg c_21]; simp only [hq]; rw [if_neg (by rw [ii_lt]; rw [ii_le, ev1] at c_36; omega), if_pos (by rw [ii_lt]; rw [ii_le] at c_43; omega)])]; exact ⟨rfl, ad, ar, hR⟩) dX5_row_48 (by decide) (by decide)
          · refine lv_bipush (v := (-2)) hx hb dX5_row_39 (by decide) ?_
            exact ew_i S9 hr hlk w (by rw [show sp_row S k n = (-2, S) from by cases hq : lowE S with | none => (rw [hq] at e7; exact absurd e7 c_26) | some p4 => (unfold sp_row; rw [if_neg c_1, if_neg (by rw [ii_lt]; rw [ii_le] at c_7; omega), if_neg c_21]; simp only [hq]; rw [if_pos (by rw [ii_lt]; rw [ii_le, ev1] at c_36; omega)])]; exact ⟨rfl, ad, ar, hR⟩) dX5_row_41 (by decide) (by decide)
    · refine lv_iconst (v := (-1)) hx hb dX5_row_10 (by decide) ?_
      exact ew_i S9 hr hlk w (by rw [show sp_row S k n = (-1, S) from by unfold sp_row; rw [if_neg c_1, if_pos (by rw [ii_lt]; rw [ii_le] at c_7; omega)]]; exact ⟨rfl, ad, ar, hR⟩) dX5_row_11 (by decide) (by decide)
end
section
set_option maxHeartbeats 4000000 in
set_option maxRecDepth 100000 in
theorem c_init (l : Launch) {G : Gt} {ws : va_W} (sz : Nat) {x : Nat} (hx0 : hp ws x (.inr (3, [.null, .null, .int 0, .int 0, .int 0, .int 0, .int 0, .int 0, .int 0]))) (ad ar : Nat → Nat) : Met l yX5_init wsX5_init ({ frames := 1, cells := 2, slots := 720, locals := 12 } : Room) (Pw G [.ref x] ws sz) (va_Qv (fun (u : va_W) => ∃ sh li, RpX G x sh li ad ar S0 u) (Bw G ws sz) (va_A ws sz)) 2 720 (va_A ws sz) := by
  refine Met_pw (cc := cX5_init) (maxL := 1) (ret := none) (by decide) rfl (Nat.le_of_ble_eq_true rfl) ?_
  intro p e s m below meth c ls hsz S9 hr hlk hnm w hl
  subst hsz
  replace S9 : CallFix p m c cX5_init 1 s _ wsX5_init RX5 := S9
  have hx := S9.1
  have hb := S9.2.1
  have hown := S9.2.2.2.1
  have hts := S9.2.2.2.2
  replace hl : lv_has ls 1 [(0, .ref x)] := hl
  refine lv_aload_n hx hb dX5_init_0 rfl (lv_at hl 0 rfl) ?_
  refine W.objInit hx hb hown (hts (.methodLink RX5 1 objectInit) (by decide +kernel)) (hts (.instanceMethod objectInit) (by decide +kernel)) (hts _ (List.mem_of_getElem? (i := 3) rfl)) rfl (hl.1.trans S9.2.2.1.symm) rfl dX5_init_1 (Nat.le_of_ble_eq_true rfl) (Nat.le_of_ble_eq_true rfl) ?_
  refine W.eq (g2 := F0 m 4 ls []) rfl ?_
  refine lv_aload_n hx hb dX5_init_4 rfl (lv_at hl 0 rfl) ?_
  refine lv_sipush (v := 400) hx hb dX5_init_5 (by decide) ?_
  refine r_newT S9 w (by decide +kernel) (by decide) (N := 400) rfl (by decide) (Nat.le_of_ble_eq_true rfl) (Nat.le_of_ble_eq_true rfl) dX5_init_8 (fun sh ws1 H1 fr1 u1 w1 => ?_)
  have nxsh : x ≠ sh := fun z => fr1 _ (by rw [← z]; exact hx0)
  have nshx := nxsh.symm
  have x_1 : hp ws1 x (.inr (3, [.null, .null, .int 0, .int 0, .int 0, .int 0, .int 0, .int 0, .int 0])) := u1.keep nxsh hx0
  refine r_putF S9 w1 hnm x_1 rfl (by decide +kernel) tyX5_ok nmX5 0 (by decide) (by decide +kernel) rfl rfl rfl rfl (Nat.le_of_ble_eq_true rfl) dX5_init_11 (fun ws2 H2 lc2 u2 w2 => ?_)
  have x_2 : hp ws2 x (.inr (3, [.ref sh, .null, .int 0, .int 0, .int 0, .int 0, .int 0, .int 0, .int 0])) := u2.1
  have sh_2 : hp ws2 sh (aT G 400 (fun _ => none)) := u2.keep nshx u1.1
  refine lv_aload_n hx hb dX5_init_14 rfl (lv_at hl 0 rfl) ?_
  refine lv_sipush (v := 320) hx hb dX5_init_15 (by decide) ?_
  refine r_newI S9 w2 (by decide +kernel) (by decide) (N := 320) rfl (by decide) (Nat.le_of_ble_eq_true rfl) (Nat.le_of_ble_eq_true rfl) dX5_init_18 (fun li ws3 H3 fr3 u3 w3 => ?_)
  have nxli : x ≠ li := fun z => fr3 _ (by rw [← z]; exact x_2)
  have nlix := nxli.symm
  have nshli : sh ≠ li := fun z => fr3 _ (by rw [← z]; exact sh_2)
  have nlish := nshli.symm
  have x_3 : hp ws3 x (.inr (3, [.ref sh, .null, .int 0, .int 0, .int 0, .int 0, .int 0, .int 0, .int 0])) := u3.keep nxli x_2
  have sh_3 : hp ws3 sh (aT G 400 (fun _ => none)) := u3.keep nshli sh_2
  refine r_putF S9 w3 hnm x_3 rfl (by decide +kernel) tyX5_ok nmX5 1 (by decide) (by decide +kernel) rfl rfl rfl rfl (Nat.le_of_ble_eq_true rfl) dX5_init_20 (fun ws4 H4 lc4 u4 w4 => ?_)
  have x_4 : hp ws4 x (.inr (3, [.ref sh, .ref li, .int 0, .int 0, .int 0, .int 0, .int 0, .int 0, .int 0])) := u4.1
  have sh_4 : hp ws4 sh (aT G 400 (fun _ => none)) := u4.keep nshx sh_3
  have li_4 : hp ws4 li (aI G 320 (fun _ => 0)) := u4.keep nlix u3.1
  refine lv_aload_n hx hb dX5_init_23 rfl (lv_at hl 0 rfl) ?_
  refine lv_iconst (v := 0) hx hb dX5_init_24 (by decide) ?_
  refine r_put (ref := "SpanMover") S9 w4 x_4 rfl (by decide +kernel) tyX5_ok nmX5 2 (by decide) (by decide +kernel) (Or.inl rfl) rfl rfl rfl (Nat.le_of_ble_eq_true rfl) dX5_init_25 (fun ws5 H5 lc5 u5 w5 => ?_)
  have x_5 : hp ws5 x (.inr (3, [.ref sh, .ref li, .int 0, .int 0, .int 0, .int 0, .int 0, .int 0, .int 0])) := u5.1
  have sh_5 : hp ws5 sh (aT G 400 (fun _ => none)) := u5.keep nshx sh_4
  have li_5 : hp ws5 li (aI G 320 (fun _ => 0)) := u5.keep nlix li_4
  refine lv_aload_n hx hb dX5_init_28 rfl (lv_at hl 0 rfl) ?_
  refine lv_ldc (v := 60000) hx hb hown (hts (.constant RX5 23 (60000)) (by decide +kernel)) dX5_init_29 ?_
  refine r_put (ref := "SpanMover") S9 w5 x_5 rfl (by decide +kernel) tyX5_ok nmX5 3 (by decide) (by decide +kernel) (Or.inl rfl) rfl rfl rfl (Nat.le_of_ble_eq_true rfl) dX5_init_31 (fun ws6 H6 lc6 u6 w6 => ?_)
  have x_6 : hp ws6 x (.inr (3, [.ref sh, .ref li, .int 0, .int 60000, .int 0, .int 0, .int 0, .int 0, .int 0])) := u6.1
  have sh_6 : hp ws6 sh (aT G 400 (fun _ => none)) := u6.keep nshx sh_5
  have li_6 : hp ws6 li (aI G 320 (fun _ => 0)) := u6.keep nlix li_5
  refine lv_aload_n hx hb dX5_init_34 rfl (lv_at hl 0 rfl) ?_
  refine lv_iconst (v := 0) hx hb dX5_init_35 (by decide) ?_
  refine r_put (ref := "SpanMover") S9 w6 x_6 rfl (by decide +kernel) tyX5_ok nmX5 4 (by decide) (by decide +kernel) (Or.inl rfl) rfl rfl rfl (Nat.le_of_ble_eq_true rfl) dX5_init_36 (fun ws7 H7 lc7 u7 w7 => ?_)
  have x_7 : hp ws7 x (.inr (3, [.ref sh, .ref li, .int 0, .int 60000, .int 0, .int 0, .int 0, .int 0, .int 0])) := u7.1
  have sh_7 : hp ws7 sh (aT G 400 (fun _ => none)) := u7.keep nshx sh_6
  have li_7 : hp ws7 li (aI G 320 (fun _ => 0)) := u7.keep nlix li_6
  refine lv_aload_n hx hb dX5_init_39 rfl (lv_at hl 0 rfl) ?_
  refine lv_iconst (v := 0) hx hb dX5_init_40 (by decide) ?_
  refine r_put (ref := "SpanMover") S9 w7 x_7 rfl (by decide +kernel) tyX5_ok nmX5 5 (by decide) (by decide +kernel) (Or.inl rfl) rfl rfl rfl (Nat.le_of_ble_eq_true rfl) dX5_init_41 (fun ws8 H8 lc8 u8 w8 => ?_)
  have x_8 : hp ws8 x (.inr (3, [.ref sh, .ref li, .int 0, .int 60000, .int 0, .int 0, .int 0, .int 0, .int 0])) := u8.1
  have sh_8 : hp ws8 sh (aT G 400 (fun _ => none)) := u8.keep nshx sh_7
  have li_8 : hp ws8 li (aI G 320 (fun _ => 0)) := u8.keep nlix li_7
  refine lv_aload_n hx hb dX5_init_44 rfl (lv_at hl 0 rfl) ?_
  refine lv_iconst (v := 0) hx hb dX5_init_45 (by decide) ?_
  refine r_put (ref := "SpanMover") S9 w8 x_8 rfl (by decide +kernel) tyX5_ok nmX5 6 (by decide) (by decide +kernel) (Or.inl rfl) rfl rfl rfl (Nat.le_of_ble_eq_true rfl) dX5_init_46 (fun ws9 H9 lc9 u9 w9 => ?_)
  have x_9 : hp ws9 x (.inr (3, [.ref sh, .ref li, .int 0, .int 60000, .int 0, .int 0, .int 0, .int 0, .int 0])) := u9.1
  have sh_9 : hp ws9 sh (aT G 400 (fun _ => none)) := u9.keep nshx sh_8
  have li_9 : hp ws9 li (aI G 320 (fun _ => 0)) := u9.keep nlix li_8
  refine lv_aload_n hx hb dX5_init_49 rfl (lv_at hl 0 rfl) ?_
  refine lv_iconst (v := 0) hx hb dX5_init_50 (by decide) ?_
  refine r_put (ref := "SpanMover") S9 w9 x_9 rfl (by decide +kernel) tyX5_ok nmX5 7 (by decide) (by decide +kernel) (Or.inl rfl) rfl rfl rfl (Nat.le_of_ble_eq_true rfl) dX5_init_51 (fun ws10 H10 lc10 u10 w10 => ?_)
  have x_10 : hp ws10 x (.inr (3, [.ref sh, .ref li, .int 0, .int 60000, .int 0, .int 0, .int 0, .int 0, .int 0])) := u10.1
  have sh_10 : hp ws10 sh (aT G 400 (fun _ => none)) := u10.keep nshx sh_9
  have li_10 : hp ws10 li (aI G 320 (fun _ => 0)) := u10.keep nlix li_9
  refine lv_aload_n hx hb dX5_init_54 rfl (lv_at hl 0 rfl) ?_
  refine lv_iconst (v := 0) hx hb dX5_init_55 (by decide) ?_
  refine r_put (ref := "SpanMover") S9 w10 x_10 rfl (by decide +kernel) tyX5_ok nmX5 8 (by decide) (by decide +kernel) (Or.inl rfl) rfl rfl rfl (Nat.le_of_ble_eq_true rfl) dX5_init_56 (fun ws11 H11 lc11 u11 w11 => ?_)
  have x_11 : hp ws11 x (.inr (3, [.ref sh, .ref li, .int 0, .int 60000, .int 0, .int 0, .int 0, .int 0, .int 0])) := u11.1
  have sh_11 : hp ws11 sh (aT G 400 (fun _ => none)) := u11.keep nshx sh_10
  have li_11 : hp ws11 li (aI G 320 (fun _ => 0)) := u11.keep nlix li_10
  exact ew_v S9 hr hlk w11 (⟨sh, li, x_11, sh_11, li_11, (fun h o q => by cases q), (fun h h2 o o2 q => by cases q), (fun h o q => by cases q)⟩) dX5_init_59 (by decide) (by decide)
end
section
theorem wb_tb (n : Nat) : (lN n).toBitVec = BitVec.ofNat 64 n := rfl
theorem wb_inj {a b : Int64} (h : a.toBitVec = b.toBitVec) : a = b := Int64.toBitVec_inj.mp h
theorem wb_tn {n : Nat} (h : n < 2 ^ 64) : (lN n).toBitVec.toNat = n := by rw [wb_tb, BitVec.toNat_ofNat, Nat.mod_eq_of_lt h]
theorem wb_of (x : Int64) : ∃ n, n < 2 ^ 64 ∧ x = lN n := ⟨x.toBitVec.toNat, x.toBitVec.isLt, wb_inj (by rw [wb_tb]; simp)⟩
theorem wb_of32 (x : Int32) : ∃ n, n < 2 ^ 32 ∧ x = nI n := ⟨x.toBitVec.toNat, x.toBitVec.isLt, Int32.toBitVec_inj.mp (by show _ = BitVec.ofNat 32 _; simp)⟩
theorem wb_c : ∀ k, k < 64 → ((nI k).toInt64 &&& 63) = lN k := by decide +kernel
theorem wb_cu : ∀ k, k < 64 → ((nI k).toInt64.toUInt64 &&& Int64.toUInt64 63) = UInt64.ofNat k := by decide +kernel
theorem wb_sm : ∀ k, k < 64 → (BitVec.ofNat 64 k).smod 64 = BitVec.ofNat 64 k := by decide +kernel
theorem wb_pw {a b : Nat} (h : a ≤ b) : 2 ^ b = 2 ^ a * 2 ^ (b - a) := by rw [← Nat.pow_add]; congr 1; omega
theorem wb_lt2 {a b : Nat} (h : a < b) : 2 ^ a < 2 ^ b := Nat.pow_lt_pow_right (by decide) h
theorem wb_mod (n : Nat) : lN n = lN (n % 2 ^ 64) := wb_inj (by rw [wb_tb, wb_tb]; apply BitVec.eq_of_toNat_eq; rw [BitVec.toNat_ofNat, BitVec.toNat_ofNat, Nat.mod_mod])
theorem wb_shr {n k : Nat} (hn : n < 2 ^ 64) (hk : k < 64) : ((lN n).toUInt64 >>> ((nI k).toInt64.toUInt64 &&& Int64.toUInt64 63)).toInt64 = lN (n / 2 ^ k) := by
  rw [wb_cu k hk]
  apply wb_inj
  apply BitVec.eq_of_toNat_eq
  show ((lN n).toUInt64 >>> UInt64.ofNat k).toNat = (BitVec.ofNat 64 _).toNat
  have h1 : (UInt64.ofNat k).toNat = k := by
    show (BitVec.ofNat 64 k).toNat = k
    rw [BitVec.toNat_ofNat, Nat.mod_eq_of_lt (by omega)]
  have h2 : (lN n).toUInt64.toNat = n := wb_tn hn
  rw [UInt64.toNat_shiftRight, h1, h2, Nat.mod_eq_of_lt hk, Nat.shiftRight_eq_div_pow, BitVec.toNat_ofNat, Nat.mod_eq_of_lt (Nat.lt_of_le_of_lt (Nat.div_le_self _ _) hn)]
theorem wb_shl (n : Nat) {k : Nat} (hk : k < 64) : lN n <<< ((nI k).toInt64 &&& 63) = lN (n * 2 ^ k) := by
  rw [wb_c k hk]
  apply wb_inj
  rw [Int64.toBitVec_shiftLeft, wb_tb, wb_tb, wb_tb, wb_sm k hk]
  apply BitVec.eq_of_toNat_eq
  rw [BitVec.shiftLeft_eq', BitVec.toNat_shiftLeft, BitVec.toNat_ofNat, BitVec.toNat_ofNat, BitVec.toNat_ofNat, Nat.mod_eq_of_lt (show k < 2 ^ 64 by omega), Nat.shiftLeft_eq, Nat.mul_mod, Nat.mod_mod, ← Nat.mul_mod]
theorem wb_and {a b : Nat} (ha : a < 2 ^ 64) (hb : b < 2 ^ 64) : lN a &&& lN b = lN (a &&& b) := by
  apply wb_inj
  rw [Int64.toBitVec_and, wb_tb, wb_tb, wb_tb]
  apply BitVec.eq_of_toNat_eq
  rw [BitVec.toNat_and, BitVec.toNat_ofNat, BitVec.toNat_ofNat, BitVec.toNat_ofNat, Nat.mod_eq_of_lt ha, Nat.mod_eq_of_lt hb, Nat.mod_eq_of_lt (Nat.and_lt_two_pow _ hb)]
theorem wb_or {a b : Nat} (ha : a < 2 ^ 64) (hb : b < 2 ^ 64) : lN a ||| lN b = lN (a ||| b) := by
  apply wb_inj
  rw [Int64.toBitVec_or, wb_tb, wb_tb, wb_tb]
  apply BitVec.eq_of_toNat_eq
  rw [BitVec.toNat_or, BitVec.toNat_ofNat, BitVec.toNat_ofNat, BitVec.toNat_ofNat, Nat.mod_eq_of_lt ha, Nat.mod_eq_of_lt hb, Nat.mod_eq_of_lt (Nat.or_lt_two_pow ha hb)]
theorem wb_mask {n k : Nat} (hn : n < 2 ^ 64) (hk : k < 64) : lN n &&& lN (2 ^ k - 1) = lN (n % 2 ^ k) := by
  rw [wb_and hn (by have := wb_lt2 hk; omega), Nat.and_two_pow_sub_one_eq_mod]
theorem wb_a1 {n : Nat} (hn : n < 2 ^ 64) : lN n &&& 1 = lN (n % 2) := wb_mask (k := 1) hn (by decide)
/-! THE REFERENCE'S STATE -/
def hdW (k lo : Int32) : Int64 := (k.toInt64 <<< ((32 : Int32).toInt64 &&& 63)) ||| (lo.toInt64 &&& 4294967295)
theorem low_mask (lo : Int32) : lo.toInt64 &&& 4294967295 = lN lo.toBitVec.toNat := by
  have h1 := lo.toInt64.toBitVec.isLt
  have e1 : lo.toInt64 = lN lo.toInt64.toBitVec.toNat := wb_inj (by rw [wb_tb]; simp)
  have e2 := wb_mask (n := lo.toInt64.toBitVec.toNat) (k := 32) h1 (by decide)
  rw [← e1] at e2
  refine e2.trans ?_
  have e3 : lo.toInt64.toBitVec = lo.toBitVec.signExtend 64 := rfl
  rw [e3, BitVec.toNat_signExtend]
  have h2 := lo.toBitVec.isLt
  congr 1
  rw [BitVec.toNat_setWidth, Nat.mod_eq_of_lt (show lo.toBitVec.toNat < 2 ^ 64 by omega)]
  split <;> omega
theorem hd_nat {k : Nat} (hk : k ≤ 8) (lo : Int32) : hdW (nI k) lo = lN (k * 2 ^ 32 + lo.toBitVec.toNat) := by
  have h2 := lo.toBitVec.isLt
  unfold hdW
  rw [nI_l (by omega), low_mask]
  have e1 : lN k <<< ((32 : Int32).toInt64 &&& 63) = lN (k * 2 ^ 32) := wb_shl k (k := 32) (by decide)
  rw [e1, wb_or (by omega) (by omega)]
  congr 1
  rw [Nat.mul_comm]
  exact (Nat.two_pow_add_eq_or_of_lt h2 k).symm
theorem ls_shr {n : Nat} (h : n < 2 ^ 63) {k : Nat} (hk : k < 64) : lN n >>> ((nI k).toInt64 &&& 63) = lN (n / 2 ^ k) := by
  rw [wb_c k hk]
  apply Int64.toInt_inj.mp
  have h2 : n / 2 ^ k ≤ n := Nat.div_le_self _ _
  have e1 : (lN n >>> lN k).toInt = ((lN n).toBitVec.sshiftRight ((lN k).toBitVec.smod 64).toNat).toInt := rfl
  rw [e1, wb_tb k, wb_sm k hk, BitVec.toInt_sshiftRight, BitVec.toNat_ofNat, Nat.mod_eq_of_lt (show k < 2 ^ 64 by omega)]
  have e2 : (lN n).toBitVec.toInt = (lN n).toInt := rfl
  rw [e2, pk_lT h, pk_lT (by omega), Int.shiftRight_eq_div_pow]
  rfl
theorem hd_kind {k : Nat} (hk : k ≤ 8) (lo : Int32) : (hdW (nI k) lo >>> ((32 : Int32).toInt64 &&& 63)).toInt32 = nI k := by
  have h2 := lo.toBitVec.isLt
  rw [hd_nat hk]
  have e1 : lN (k * 2 ^ 32 + lo.toBitVec.toNat) >>> ((32 : Int32).toInt64 &&& 63) = lN ((k * 2 ^ 32 + lo.toBitVec.toNat) / 2 ^ 32) := ls_shr (by omega) (k := 32) (by decide)
  rw [e1, lN_i]
  congr 1
  omega
theorem hd_low {k : Nat} (hk : k ≤ 8) (lo : Int32) : (hdW (nI k) lo).toInt32 = lo := by
  have h2 := lo.toBitVec.isLt
  rw [hd_nat hk, lN_i]
  apply Int32.toBitVec_inj.mp
  show BitVec.ofNat 32 _ = _
  apply BitVec.eq_of_toNat_eq
  rw [BitVec.toNat_ofNat]
  omega
theorem hd_told {k : Nat} (hk : k ≤ 8) (lo : Int32) : hdW (nI k) lo = (nI k).toInt64 * 4294967296 + (lo.toInt64 &&& 4294967295) := by
  rw [hd_nat hk, low_mask, nI_l (by omega)]
  have e1 : lN k * 4294967296 = lN (k * 4294967296) := lN_mul k 4294967296
  rw [e1, lN_add]
def encO (r : Option Nat) : Nat := match r with
  | none => 0
  | some h => h + 1
/-- a head, or -1 -/
def hM (r : Option Nat) : Int32 := match r with
  | none => -1
  | some h => nI h
def loV (o : Ob) : Int32 := if 7 ≤ o_k o then o_v o else nI (o_n o)
def hdO (o : Ob) : Int64 := hdW (nI (o_k o)) (loV o)
def HpM (S : St) (hf : Nat → Int64) : Prop :=
  (∀ h o, s_o S h = some o → hf h = hdO o ∧ (o_k o ≤ 3 → ∀ j, j < o_n o → hf (h + 1 + j) = o_f o j) ∧ (4 ≤ o_k o → o_k o ≤ 6 → ∀ j, j < o_n o → hf (h + 1 + j) = lN (encO (o_e o j)))) ∧
  (∀ j, s_u S ≤ j → j < 60000 → hf j = 0)
abbrev oM (ha at_ li : Nat) (u : Int32) (f : Nat → Int32) : va_E := .inr (4, [.ref ha, .int u, .ref at_, .ref li, .int (f 0), .int (f 2), .int (f 4), .int (f 3), .int (f 5), .int (f 6)])
def RpM (G : Gt) (x ha at_ li : Nat) (S : St) (ws : va_W) : Prop := ∃ (hf : Nat → Int64) (af : Nat → Int32),
  hp ws x (oM ha at_ li (nI (s_u S)) (s_c S)) ∧ hp ws ha (aJ G 60000 hf) ∧ hp ws at_ (aI G 400 af) ∧ hp ws li (aI G 320 (s_l S)) ∧ (∀ i, i < 400 → af i = nI (encO (s_s S i))) ∧ HpM S hf
theorem hM_enc (r : Option Nat) : nI (encO r) - 1 = hM r := by
  cases r with
  | none => rfl
  | some h => exact nI_pred h
end
section
theorem Inv.hd {S : St} (hI : Inv S) {h : Nat} {o : Ob} (ho : s_o S h = some o) : h < 60000 := by
  have h1 := (hI.2.2.2.1 h o ho).2.2
  have h2 := hI.1
  omega
theorem loV_row {o : Ob} (h : o_k o ≤ 6) : loV o = nI (o_n o) := by
  unfold loV
  rw [if_neg (by omega)]
theorem sh_le0 {S : St} (hI : Inv S) {k : Nat} : (nI (encO (s_s S k)) ≤ 0) ↔ s_s S k = none := by
  cases hs : s_s S k with
  | none => simp [encO, nI_0]
  | some h =>
    obtain ⟨o, ho⟩ := hI.2.2.2.2.2.1 k h hs
    have b := hI.hd ho
    have := nI_nle (n := h + 1) (by omega) (by omega)
    simp [encO, this]
set_option maxHeartbeats 4000000 in
set_option maxRecDepth 100000 in
theorem c_misPlace (l : Launch) {G : Gt} {ws : va_W} (sz : Nat) (pl : Int32) : Met l yX6_isPlace wsX6_isPlace ({ frames := 0, cells := 0, slots := 0, locals := 0 } : Room) (Pw G [.int pl] ws sz) (vp_Si (fun r : Int32 => r = if pl < 0 then 0 else if 400 ≤ pl then 0 else 1)) 0 0 (fun _ => False) := by
  refine Met_pw (cc := cX6_isPlace) (maxL := 1) (ret := (some .boolean)) (by decide) rfl (Nat.le_of_ble_eq_true rfl) ?_
  intro p e s m below meth c ls hsz S9 hr hlk hnm w hl
  subst hsz
  replace S9 : CallFix p m c cX6_isPlace 1 s _ wsX6_isPlace RX6 := S9
  have hx := S9.1
  have hb := S9.2.1
  have hown := S9.2.2.2.1
  have hts := S9.2.2.2.2
  replace hl : lv_has ls 1 [(0, .int pl)] := hl
  refine lv_iload_n hx hb dX6_isPlace_0 rfl (lv_at hl 0 rfl) ?_
  refine lv_if_lt (tgt := 15) hx hb dX6_isPlace_1 (by decide) (fun c_1 => ?_) (fun c_1 => ?_)
  · refine lv_iconst (v := 0) hx hb dX6_isPlace_15 (by decide) ?_
    exact e_z S9 hr hlk (by first | exact Or.inl rfl | exact Or.inr rfl) (by simp [c_1]) dX6_isPlace_16
  · refine lv_iload_n hx hb dX6_isPlace_4 rfl (lv_at hl 0 rfl) ?_
    refine lv_sipush (v := 400) hx hb dX6_isPlace_5 (by decide) ?_
    refine lv_icmp_ge (tgt := 15) hx hb dX6_isPlace_8 (by decide) (fun c_8 => ?_) (fun c_8 => ?_)
    · refine lv_iconst (v := 0) hx hb dX6_isPlace_15 (by decide) ?_
      exact e_z S9 hr hlk (by first | exact Or.inl rfl | exact Or.inr rfl) (by simp [c_1, c_8]) dX6_isPlace_16
    · refine lv_iconst (v := 1) hx hb dX6_isPlace_11 (by decide) ?_
      refine lv_goto (tgt := 16) hx hb dX6_isPlace_12 (by decide) ?_
      exact e_z S9 hr hlk (by first | exact Or.inl rfl | exact Or.inr rfl) (by simp [c_1, c_8]) dX6_isPlace_16

set_option maxHeartbeats 4000000 in
set_option maxRecDepth 100000 in
theorem c_min (l : Launch) {G : Gt} {ws : va_W} (sz : Nat) {x ha at_ li : Nat} {S : St} (hR : RpM G x ha at_ li S ws) (pl : Int32) : Met l yX6_in wsX6_in ({ frames := 1, cells := 0, slots := 0, locals := 20 } : Room) (Pw G [.ref x, .int pl] ws sz) (vp_Si (fun r : Int32 => r = hM (itm S pl))) 0 0 (fun _ => False) := by
  refine Met_pw (cc := cX6_in) (maxL := 2) (ret := (some .int)) (by decide) rfl (Nat.le_of_ble_eq_true rfl) ?_
  intro p e s m below meth c ls hsz S9 hr hlk hnm w hl
  subst hsz
  replace S9 : CallFix p m c cX6_in 2 s _ wsX6_in RX6 := S9
  have hx := S9.1
  have hb := S9.2.1
  have hown := S9.2.2.2.1
  have hts := S9.2.2.2.2
  replace hl : lv_has ls 2 [(0, .ref x), (1, .int pl)] := hl
  obtain ⟨hf, af, m1, m2, m3, m4, m5, m6⟩ := hR
  refine lv_iload_n hx hb dX6_in_0 rfl (lv_at hl 1 rfl) ?_
  refine k_si S9 w (c_misPlace l _ pl) (va_cwS 1 hts gX6_in_X6_isPlace rfl rfl rfl (by decide +kernel) ⟨Nat.le_of_ble_eq_true rfl, Nat.le_of_ble_eq_true rfl⟩) rfl hl.1 rfl (Nat.le_of_ble_eq_true rfl) dX6_in_1 ⟨Nat.le_of_ble_eq_true rfl, Nat.le_of_ble_eq_true rfl⟩ (fun v7 e7 => ?_)
  refine lv_if_eq (tgt := 18) hx hb dX6_in_4 (by decide) (fun c_4 => ?_) (fun c_4 => ?_)
  · refine lv_iconst (v := (-1)) hx hb dX6_in_18 (by decide) ?_
    exact e_i S9 hr hlk (by rw [e7] at c_4; unfold itm; by_cases h0 : pl < 0; (simp [h0, hM]); (by_cases h4 : (400 : Int32) ≤ pl; (simp [h0, h4, hM]); (simp [h0, h4] at c_4))) dX6_in_19
  · refine lv_aload_n hx hb dX6_in_7 rfl (lv_at hl 0 rfl) ?_
    refine r_get (ref := "SpanMoverModel") S9 w m1 rfl (by decide +kernel) 2 (by decide) (by decide +kernel) (Or.inl rfl) rfl dX6_in_8 ?_
    refine lv_iload_n hx hb dX6_in_11 rfl (lv_at hl 1 rfl) ?_
    refine r_iald S9 w m3 (in_of (fun h0 => c_4 (by rw [e7, if_pos h0])) (fun h4 => c_4 (by rw [e7]; by_cases h0 : pl < 0; exact if_pos h0; rw [if_neg h0]; exact if_pos h4)) (by decide)) dX6_in_12 ?_
    refine lv_topi (fun v1 ev1 => ?_)
    refine lv_iconst (v := 1) hx hb dX6_in_13 (by decide) ?_
    refine lv_isub hx hb dX6_in_14 ?_
    refine lv_topi (fun v2 ev2 => ?_)
    refine lv_goto (tgt := 19) hx hb dX6_in_15 (by decide) ?_
    exact e_i S9 hr hlk (by have h0 : ¬ pl < 0 := (fun h0 => c_4 (by rw [e7, if_pos h0])); have h4 : ¬ (400 : Int32) ≤ pl := (fun h4 => c_4 (by rw [e7, if_neg h0]; exact if_pos h4)); have hin := in_of (n := 400) h0 h4 (by decide); obtain ⟨j, hj, rfl⟩ := vp_in_of hin (by decide); rw [ev2, ev1, nI_clamp (by omega), m5 j hj, hM_enc]; unfold itm; rw [if_neg h0, if_neg h4, nI_clamp (by omega)]) dX6_in_19

set_option maxHeartbeats 4000000 in
set_option maxRecDepth 100000 in
theorem c_mkind (l : Launch) {G : Gt} {ws : va_W} (sz : Nat) {x ha at_ li : Nat} {S : St} (hR : RpM G x ha at_ li S ws) (hI : Inv S) {h : Nat} {o : Ob} (ho : s_o S h = some o) : Met l yX6_kind wsX6_kind ({ frames := 0, cells := 0, slots := 0, locals := 0 } : Room) (Pw G [.ref x, .int (nI h)] ws sz) (vp_Si (fun r : Int32 => r = nI (o_k o))) 0 0 (fun _ => False) := by
  refine Met_pw (cc := cX6_kind) (maxL := 2) (ret := (some .int)) (by decide) rfl (Nat.le_of_ble_eq_true rfl) ?_
  intro p e s m below meth c ls hsz S9 hr hlk hnm w hl
  subst hsz
  replace S9 : CallFix p m c cX6_kind 2 s _ wsX6_kind RX6 := S9
  have hx := S9.1
  have hb := S9.2.1
  have hown := S9.2.2.2.1
  have hts := S9.2.2.2.2
  replace hl : lv_has ls 2 [(0, .ref x), (1, .int (nI h))] := hl
  obtain ⟨hf, af, m1, m2, m3, m4, m5, m6⟩ := hR
  have bh := hI.hd ho
  have m7 := (m6.1 h o ho).1
  have k8 := (hI.ob ho).1
  have n2 := (hI.ob ho).2
  refine lv_aload_n hx hb dX6_kind_0 rfl (lv_at hl 0 rfl) ?_
  refine r_get (ref := "SpanMoverModel") S9 w m1 rfl (by decide +kernel) 0 (by decide) (by decide +kernel) (Or.inl rfl) rfl dX6_kind_1 ?_
  refine lv_iload_n hx hb dX6_kind_4 rfl (lv_at hl 1 rfl) ?_
  refine r_lald S9 w m2 (vp_in_nI bh (by decide)) dX6_kind_5 ?_
  refine lv_topl (fun v1 ev1 => ?_)
  refine lv_bipush (v := 32) hx hb dX6_kind_6 (by decide) ?_
  obtain ⟨v2, ev2⟩ : ∃ z : Int64, v1 >>> ((32 : Int32).toInt64 &&& 63) = z := ⟨_, rfl⟩
  refine lv_lshr (v := v2) hx hb dX6_kind_8 ev2 ?_
  obtain ⟨v3, ev3⟩ : ∃ z : Int32, Int64.toInt32 v2 = z := ⟨_, rfl⟩
  refine lv_l2i (v := v3) hx hb dX6_kind_9 ev3 ?_
  exact e_i S9 hr hlk (by rw [← ev3, ← ev2, ev1, nI_clamp (by omega), m7]; exact hd_kind k8 _) dX6_kind_10

set_option maxHeartbeats 4000000 in
set_option maxRecDepth 100000 in
theorem c_mlow (l : Launch) {G : Gt} {ws : va_W} (sz : Nat) {x ha at_ li : Nat} {S : St} (hR : RpM G x ha at_ li S ws) (hI : Inv S) {h : Nat} {o : Ob} (ho : s_o S h = some o) : Met l yX6_low wsX6_low ({ frames := 0, cells := 0, slots := 0, locals := 0 } : Room) (Pw G [.ref x, .int (nI h)] ws sz) (vp_Si (fun r : Int32 => r = loV o)) 0 0 (fun _ => False) := by
  refine Met_pw (cc := cX6_low) (maxL := 2) (ret := (some .int)) (by decide) rfl (Nat.le_of_ble_eq_true rfl) ?_
  intro p e s m below meth c ls hsz S9 hr hlk hnm w hl
  subst hsz
  replace S9 : CallFix p m c cX6_low 2 s _ wsX6_low RX6 := S9
  have hx := S9.1
  have hb := S9.2.1
  have hown := S9.2.2.2.1
  have hts := S9.2.2.2.2
  replace hl : lv_has ls 2 [(0, .ref x), (1, .int (nI h))] := hl
  obtain ⟨hf, af, m1, m2, m3, m4, m5, m6⟩ := hR
  have bh := hI.hd ho
  have m7 := (m6.1 h o ho).1
  have k8 := (hI.ob ho).1
  have n2 := (hI.ob ho).2
  refine lv_aload_n hx hb dX6_low_0 rfl (lv_at hl 0 rfl) ?_
  refine r_get (ref := "SpanMoverModel") S9 w m1 rfl (by decide +kernel) 0 (by decide) (by decide +kernel) (Or.inl rfl) rfl dX6_low_1 ?_
  refine lv_iload_n hx hb dX6_low_4 rfl (lv_at hl 1 rfl) ?_
  refine r_lald S9 w m2 (vp_in_nI bh (by decide)) dX6_low_5 ?_
  refine lv_topl (fun v1 ev1 => ?_)
  obtain ⟨v2, ev2⟩ : ∃ z : Int32, Int64.toInt32 v1 = z := ⟨_, rfl⟩
  refine lv_l2i (v := v2) hx hb dX6_low_6 ev2 ?_
  exact e_i S9 hr hlk (by rw [← ev2, ev1, nI_clamp (by omega), m7]; exact hd_low k8 _) dX6_low_7

set_option maxHeartbeats 4000000 in
set_option maxRecDepth 100000 in
theorem c_misThing (l : Launch) {G : Gt} {ws : va_W} (sz : Nat) {x ha at_ li : Nat} {S : St} (hR : RpM G x ha at_ li S ws) (hI : Inv S) {h : Nat} {o : Ob} (ho : s_o S h = some o) : Met l yX6_isThing wsX6_isThing ({ frames := 1, cells := 0, slots := 0, locals := 21 } : Room) (Pw G [.ref x, .int (nI h)] ws sz) (vp_Si (fun r : Int32 => r = if 7 ≤ o_k o then 1 else 0)) 0 0 (fun _ => False) := by
  refine Met_pw (cc := cX6_isThing) (maxL := 2) (ret := (some .boolean)) (by decide) rfl (Nat.le_of_ble_eq_true rfl) ?_
  intro p e s m below meth c ls hsz S9 hr hlk hnm w hl
  subst hsz
  replace S9 : CallFix p m c cX6_isThing 2 s _ wsX6_isThing RX6 := S9
  have hx := S9.1
  have hb := S9.2.1
  have hown := S9.2.2.2.1
  have hts := S9.2.2.2.2
  replace hl : lv_has ls 2 [(0, .ref x), (1, .int (nI h))] := hl
  obtain ⟨hf, af, hR1, -⟩ := id hR
  have k8 := (hI.ob ho).1
  refine lv_aload_n hx hb dX6_isThing_0 rfl (lv_at hl 0 rfl) ?_
  refine lv_iload_n hx hb dX6_isThing_1 rfl (lv_at hl 1 rfl) ?_
  refine k_vi S9 w (c_mkind l _ hR hI ho) hR1 rfl (cwV 1 hts gX6_isThing_X6_kind rfl rfl rfl (by decide +kernel) ⟨Nat.le_of_ble_eq_true rfl, Nat.le_of_ble_eq_true rfl⟩) rfl hl.1 rfl (Nat.le_of_ble_eq_true rfl) dX6_isThing_2 ⟨Nat.le_of_ble_eq_true rfl, Nat.le_of_ble_eq_true rfl⟩ (fun v7 ev7 => ?_)
  subst ev7
  refine lv_bipush (v := 7) hx hb dX6_isThing_5 (by decide) ?_
  refine lv_icmp_lt (tgt := 14) hx hb dX6_isThing_7 (by decide) (fun c_7 => ?_) (fun c_7 => ?_)
  · refine lv_iconst (v := 0) hx hb dX6_isThing_14 (by decide) ?_
    exact e_z S9 hr hlk (by first | exact Or.inl rfl | exact Or.inr rfl) (by have c := (nI_ltI (b := 7) (by omega) (by decide)).mp c_7; rw [if_neg (by omega)]) dX6_isThing_15
  · refine lv_iconst (v := 1) hx hb dX6_isThing_10 (by decide) ?_
    refine lv_goto (tgt := 15) hx hb dX6_isThing_11 (by decide) ?_
    exact e_z S9 hr hlk (by first | exact Or.inl rfl | exact Or.inr rfl) (by have c : ¬ o_k o < 7 := (fun q => c_7 ((nI_ltI (b := 7) (by omega) (by decide)).mpr q)); rw [if_pos (by omega)]) dX6_isThing_15

set_option maxHeartbeats 4000000 in
set_option maxRecDepth 100000 in
theorem c_misOfObjects (l : Launch) {G : Gt} {ws : va_W} (sz : Nat) {x ha at_ li : Nat} {S : St} (hR : RpM G x ha at_ li S ws) (hI : Inv S) {h : Nat} {o : Ob} (ho : s_o S h = some o) : Met l yX6_isOfObjects wsX6_isOfObjects ({ frames := 1, cells := 0, slots := 0, locals := 21 } : Room) (Pw G [.ref x, .int (nI h)] ws sz) (vp_Si (fun r : Int32 => r = if 4 ≤ o_k o ∧ o_k o ≤ 6 then 1 else 0)) 0 0 (fun _ => False) := by
  refine Met_pw (cc := cX6_isOfObjects) (maxL := 2) (ret := (some .boolean)) (by decide) rfl (Nat.le_of_ble_eq_true rfl) ?_
  intro p e s m below meth c ls hsz S9 hr hlk hnm w hl
  subst hsz
  replace S9 : CallFix p m c cX6_isOfObjects 2 s _ wsX6_isOfObjects RX6 := S9
  have hx := S9.1
  have hb := S9.2.1
  have hown := S9.2.2.2.1
  have hts := S9.2.2.2.2
  replace hl : lv_has ls 2 [(0, .ref x), (1, .int (nI h))] := hl
  obtain ⟨hf, af, hR1, -⟩ := id hR
  have k8 := (hI.ob ho).1
  refine lv_aload_n hx hb dX6_isOfObjects_0 rfl (lv_at hl 0 rfl) ?_
  refine lv_iload_n hx hb dX6_isOfObjects_1 rfl (lv_at hl 1 rfl) ?_
  refine k_vi S9 w (c_mkind l _ hR hI ho) hR1 rfl (cwV 1 hts gX6_isOfObjects_X6_kind rfl rfl rfl (by decide +kernel) ⟨Nat.le_of_ble_eq_true rfl, Nat.le_of_ble_eq_true rfl⟩) rfl hl.1 rfl (Nat.le_of_ble_eq_true rfl) dX6_isOfObjects_2 ⟨Nat.le_of_ble_eq_true rfl, Nat.le_of_ble_eq_true rfl⟩ (fun v7 ev7 => ?_)
  subst ev7
  refine lv_iconst (v := 4) hx hb dX6_isOfObjects_5 (by decide) ?_
  refine lv_icmp_lt (tgt := 23) hx hb dX6_isOfObjects_6 (by decide) (fun c_6 => ?_) (fun c_6 => ?_)
  · refine lv_iconst (v := 0) hx hb dX6_isOfObjects_23 (by decide) ?_
    exact e_z S9 hr hlk (by first | exact Or.inl rfl | exact Or.inr rfl) (by have c := (nI_ltI (b := 4) (by omega) (by decide)).mp c_6; rw [if_neg (by omega)]) dX6_isOfObjects_24
  · refine lv_aload_n hx hb dX6_isOfObjects_9 rfl (lv_at hl 0 rfl) ?_
    refine lv_iload_n hx hb dX6_isOfObjects_10 rfl (lv_at hl 1 rfl) ?_
    refine k_vi S9 w (c_mkind l _ hR hI ho) hR1 rfl (cwV 1 hts gX6_isOfObjects_X6_kind rfl rfl rfl (by decide +kernel) ⟨Nat.le_of_ble_eq_true rfl, Nat.le_of_ble_eq_true rfl⟩) rfl hl.1 rfl (Nat.le_of_ble_eq_true rfl) dX6_isOfObjects_11 ⟨Nat.le_of_ble_eq_true rfl, Nat.le_of_ble_eq_true rfl⟩ (fun v8 ev8 => ?_)
    subst ev8
    refine lv_bipush (v := 6) hx hb dX6_isOfObjects_14 (by decide) ?_
    refine lv_icmp_gt (tgt := 23) hx hb dX6_isOfObjects_16 (by decide) (fun c_16 => ?_) (fun c_16 => ?_)
    · refine lv_iconst (v := 0) hx hb dX6_isOfObjects_23 (by decide) ?_
      exact e_z S9 hr hlk (by first | exact Or.inl rfl | exact Or.inr rfl) (by have c2 := (nI_ltI (a := 6) (by decide) (by omega)).mp c_16; rw [if_neg (by omega)]) dX6_isOfObjects_24
    · refine lv_iconst (v := 1) hx hb dX6_isOfObjects_19 (by decide) ?_
      refine lv_goto (tgt := 24) hx hb dX6_isOfObjects_20 (by decide) ?_
      exact e_z S9 hr hlk (by first | exact Or.inl rfl | exact Or.inr rfl) (by have c : ¬ o_k o < 4 := (fun q => c_6 ((nI_ltI (b := 4) (by omega) (by decide)).mpr q)); have c2 : ¬ 6 < o_k o := (fun q => c_16 ((nI_ltI (a := 6) (by decide) (by omega)).mpr q)); rw [if_pos (by omega)]) dX6_isOfObjects_24

set_option maxHeartbeats 4000000 in
set_option maxRecDepth 100000 in
theorem c_misElement (l : Launch) {G : Gt} {ws : va_W} (sz : Nat) {x ha at_ li : Nat} {S : St} (hR : RpM G x ha at_ li S ws) (hI : Inv S) {h : Nat} {o : Ob} (ho : s_o S h = some o) (hk6 : o_k o ≤ 6) (i : Int32) : Met l yX6_isElement wsX6_isElement ({ frames := 1, cells := 0, slots := 0, locals := 21 } : Room) (Pw G [.ref x, .int (nI h), .int i] ws sz) (vp_Si (fun r : Int32 => r = if inE (o_n o) i then 1 else 0)) 0 0 (fun _ => False) := by
  refine Met_pw (cc := cX6_isElement) (maxL := 3) (ret := (some .boolean)) (by decide) rfl (Nat.le_of_ble_eq_true rfl) ?_
  intro p e s m below meth c ls hsz S9 hr hlk hnm w hl
  subst hsz
  replace S9 : CallFix p m c cX6_isElement 3 s _ wsX6_isElement RX6 := S9
  have hx := S9.1
  have hb := S9.2.1
  have hown := S9.2.2.2.1
  have hts := S9.2.2.2.2
  replace hl : lv_has ls 3 [(0, .ref x), (1, .int (nI h)), (2, .int i)] := hl
  obtain ⟨hf, af, hR1, -⟩ := id hR
  have k8 := (hI.ob ho).1
  refine lv_iload_n hx hb dX6_isElement_0 rfl (lv_at hl 2 rfl) ?_
  refine lv_if_lt (tgt := 17) hx hb dX6_isElement_1 (by decide) (fun c_1 => ?_) (fun c_1 => ?_)
  · refine lv_iconst (v := 0) hx hb dX6_isElement_17 (by decide) ?_
    exact e_z S9 hr hlk (by first | exact Or.inl rfl | exact Or.inr rfl) (by simp [inE, c_1]) dX6_isElement_18
  · refine lv_iload_n hx hb dX6_isElement_4 rfl (lv_at hl 2 rfl) ?_
    refine lv_aload_n hx hb dX6_isElement_5 rfl (lv_at hl 0 rfl) ?_
    refine lv_iload_n hx hb dX6_isElement_6 rfl (lv_at hl 1 rfl) ?_
    refine k_vi S9 w (c_mlow l _ hR hI ho) hR1 rfl (cwV 1 hts gX6_isElement_X6_low rfl rfl rfl (by decide +kernel) ⟨Nat.le_of_ble_eq_true rfl, Nat.le_of_ble_eq_true rfl⟩) rfl hl.1 rfl (Nat.le_of_ble_eq_true rfl) dX6_isElement_7 ⟨Nat.le_of_ble_eq_true rfl, Nat.le_of_ble_eq_true rfl⟩ (fun v7 ev7 => ?_)
    rw [loV_row hk6] at ev7
    subst ev7
    refine lv_icmp_ge (tgt := 17) hx hb dX6_isElement_10 (by decide) (fun c_10 => ?_) (fun c_10 => ?_)
    · refine lv_iconst (v := 0) hx hb dX6_isElement_17 (by decide) ?_
      exact e_z S9 hr hlk (by first | exact Or.inl rfl | exact Or.inr rfl) (by simp [inE, c_1, c_10]) dX6_isElement_18
    · refine lv_iconst (v := 1) hx hb dX6_isElement_13 (by decide) ?_
      refine lv_goto (tgt := 18) hx hb dX6_isElement_14 (by decide) ?_
      exact e_z S9 hr hlk (by first | exact Or.inl rfl | exact Or.inr rfl) (by simp [inE, c_1, c_10]) dX6_isElement_18

set_option maxHeartbeats 4000000 in
set_option maxRecDepth 100000 in
theorem c_mobject (l : Launch) {G : Gt} {ws : va_W} (sz : Nat) {x ha at_ li : Nat} {S : St} (hR : RpM G x ha at_ li S ws) (hI : Inv S) {h : Nat} {o : Ob} (ho : s_o S h = some o) (hk4 : 4 ≤ o_k o) (hk6 : o_k o ≤ 6) (i : Int32) (i' : Nat) (hi : i = nI i') (hi' : i' < o_n o) : Met l yX6_object wsX6_object ({ frames := 0, cells := 0, slots := 0, locals := 0 } : Room) (Pw G [.ref x, .int (nI h), .int i] ws sz) (vp_Si (fun r : Int32 => r = hM (o_e o i'))) 0 0 (fun _ => False) := by
  refine Met_pw (cc := cX6_object) (maxL := 3) (ret := (some .int)) (by decide) rfl (Nat.le_of_ble_eq_true rfl) ?_
  intro p e s m below meth c ls hsz S9 hr hlk hnm w hl
  subst hsz
  replace S9 : CallFix p m c cX6_object 3 s _ wsX6_object RX6 := S9
  have hx := S9.1
  have hb := S9.2.1
  have hown := S9.2.2.2.1
  have hts := S9.2.2.2.2
  replace hl : lv_has ls 3 [(0, .ref x), (1, .int (nI h)), (2, .int i)] := hl
  obtain ⟨hf, af, m1, m2, m3, m4, m5, m6⟩ := hR
  have bh := hI.hd ho
  have m7 := (m6.1 h o ho).1
  have k8 := (hI.ob ho).1
  have n2 := (hI.ob ho).2
  have bs := (hI.2.2.2.1 h o ho).2.2
  have bu := hI.1
  refine lv_aload_n hx hb dX6_object_0 rfl (lv_at hl 0 rfl) ?_
  refine r_get (ref := "SpanMoverModel") S9 w m1 rfl (by decide +kernel) 0 (by decide) (by decide +kernel) (Or.inl rfl) rfl dX6_object_1 ?_
  refine lv_iload_n hx hb dX6_object_4 rfl (lv_at hl 1 rfl) ?_
  refine lv_iconst (v := 1) hx hb dX6_object_5 (by decide) ?_
  refine lv_iadd hx hb dX6_object_6 ?_
  refine lv_topi (fun v1 ev1 => ?_)
  refine lv_iload_n hx hb dX6_object_7 rfl (lv_at hl 2 rfl) ?_
  refine lv_iadd hx hb dX6_object_8 ?_
  refine lv_topi (fun v2 ev2 => ?_)
  refine r_lald S9 w m2 (by rw [show v2 = nI (h + 1 + i') from by rw [ev2, ev1, hi]; exact (congrArg (· + nI i') (nI_1 h)).trans (nI_add (h + 1) i')]; exact vp_in_nI (by omega) (by decide)) dX6_object_9 ?_
  refine lv_topl (fun v3 ev3 => ?_)
  obtain ⟨v4, ev4⟩ : ∃ z : Int32, Int64.toInt32 v3 = z := ⟨_, rfl⟩
  refine lv_l2i (v := v4) hx hb dX6_object_10 ev4 ?_
  refine lv_iconst (v := 1) hx hb dX6_object_11 (by decide) ?_
  refine lv_isub hx hb dX6_object_12 ?_
  refine lv_topi (fun v5 ev5 => ?_)
  exact e_i S9 hr hlk (by rw [ev5, ← ev4, ev3, cl_nI (show v2 = nI (h + 1 + i') from by rw [ev2, ev1, hi]; exact (congrArg (· + nI i') (nI_1 h)).trans (nI_add (h + 1) i')) (by omega), (m6.1 h o ho).2.2 hk4 hk6 i' hi', lN_i, hM_enc]) dX6_object_13

set_option maxHeartbeats 4000000 in
set_option maxRecDepth 100000 in
theorem c_mlowestEmpty (l : Launch) {G : Gt} {ws : va_W} (sz : Nat) {x ha at_ li : Nat} {S : St} (hR : RpM G x ha at_ li S ws) (hI : Inv S) : Met l yX6_lowestEmpty wsX6_lowestEmpty ({ frames := 0, cells := 0, slots := 0, locals := 0 } : Room) (Pw G [.ref x] ws sz) (vp_Si (fun r : Int32 => r = pI (lowE S))) 0 0 (fun _ => False) := by
  refine Met_pw (cc := cX6_lowestEmpty) (maxL := 2) (ret := (some .int)) (by decide) rfl (Nat.le_of_ble_eq_true rfl) ?_
  intro p e s m below meth c ls hsz S9 hr hlk hnm w hl
  subst hsz
  replace S9 : CallFix p m c cX6_lowestEmpty 2 s _ wsX6_lowestEmpty RX6 := S9
  have hx := S9.1
  have hb := S9.2.1
  have hown := S9.2.2.2.1
  have hts := S9.2.2.2.2
  replace hl : lv_has ls 2 [(0, .ref x)] := hl
  obtain ⟨hf, af, m1, m2, m3, m4, m5, m6⟩ := hR
  refine lv_iconst (v := 0) hx hb dX6_lowestEmpty_0 (by decide) ?_
  refine lv_istore_n (lv' := [(1, .int 0), (0, .ref x)]) hx hb dX6_lowestEmpty_1 rfl hl (by decide) rfl (fun ls hl => ?_)
  obtain ⟨k, hk, hv, hE⟩ : ∃ k : Nat, k ≤ 400 ∧ (0 : Int32) = nI k ∧ lowE S = low0 (s_s S) (400 - k) k := ⟨0, by omega, rfl, rfl⟩
  generalize (0 : Int32) = v at hl hv
  obtain ⟨n, hn⟩ : ∃ n, 400 - k < n := ⟨_, Nat.lt_succ_self _⟩
  induction n generalizing k v ls with
  | zero => exact absurd hn (Nat.not_lt_zero _)
  | succ n ih =>
    refine lv_iload_n hx hb dX6_lowestEmpty_2 rfl (lv_at hl 0 rfl) ?_
    refine lv_sipush (v := 400) hx hb dX6_lowestEmpty_3 (by decide) ?_
    refine lv_icmp_ge (tgt := 24) hx hb dX6_lowestEmpty_6 (by decide) (fun c_6 => ?_) (fun c_6 => ?_)
    · refine lv_iload_n hx hb dX6_lowestEmpty_24 rfl (lv_at hl 0 rfl) ?_
      refine lv_sipush (v := 400) hx hb dX6_lowestEmpty_25 (by decide) ?_
      refine lv_icmp_ge (tgt := 35) hx hb dX6_lowestEmpty_28 (by decide) (fun c_28 => ?_) (fun c_28 => ?_)
      · refine lv_iconst (v := (-1)) hx hb dX6_lowestEmpty_35 (by decide) ?_
        exact e_i S9 hr hlk (by have h4 := ge_nI (n := 400) hv hk (by decide) c_28; subst h4; rw [hE]; rfl) dX6_lowestEmpty_36
      · refine lv_iload_n hx hb dX6_lowestEmpty_31 rfl (lv_at hl 0 rfl) ?_
        refine lv_goto (tgt := 36) hx hb dX6_lowestEmpty_32 (by decide) ?_
        exact e_i S9 hr hlk (by exact absurd c_6 c_28) dX6_lowestEmpty_36
    · refine lv_aload_n hx hb dX6_lowestEmpty_9 rfl (lv_at hl 1 rfl) ?_
      refine r_get (ref := "SpanMoverModel") S9 w m1 rfl (by decide +kernel) 2 (by decide) (by decide +kernel) (Or.inl rfl) rfl dX6_lowestEmpty_10 ?_
      refine lv_iload_n hx hb dX6_lowestEmpty_13 rfl (lv_at hl 0 rfl) ?_
      refine r_iald S9 w m3 (in_nI (n := 400) hv hk (by decide) c_6) dX6_lowestEmpty_14 ?_
      refine lv_topi (fun v1 ev1 => ?_)
      refine lv_if_le (tgt := 24) hx hb dX6_lowestEmpty_15 (by decide) (fun c_15 => ?_) (fun c_15 => ?_)
      · refine lv_iload_n hx hb dX6_lowestEmpty_24 rfl (lv_at hl 0 rfl) ?_
        refine lv_sipush (v := 400) hx hb dX6_lowestEmpty_25 (by decide) ?_
        refine lv_icmp_ge (tgt := 35) hx hb dX6_lowestEmpty_28 (by decide) (fun c_28 => ?_) (fun c_28 => ?_)
        · refine lv_iconst (v := (-1)) hx hb dX6_lowestEmpty_35 (by decide) ?_
          exact e_i S9 hr hlk (by exact absurd c_28 c_6) dX6_lowestEmpty_36
        · refine lv_iload_n hx hb dX6_lowestEmpty_31 rfl (lv_at hl 0 rfl) ?_
          refine lv_goto (tgt := 36) hx hb dX6_lowestEmpty_32 (by decide) ?_
          exact e_i S9 hr hlk (by have hk4 := nge_nI (n := 400) hv hk (by decide) c_6; rw [ev1, cl_nI hv (by omega), m5 k hk4, sh_le0 hI] at c_15; rw [hE, low_hit hk4 c_15]; exact hv) dX6_lowestEmpty_36
      · obtain ⟨v2, ev2⟩ : ∃ z : Int32, z = v + 1 := ⟨_, rfl⟩
        refine lv_iinc (v := v2) (lv' := [(1, .int v2), (0, .ref x)]) hx hb dX6_lowestEmpty_18 hl (k := 0) rfl (by rw [ev2]; rfl) (by decide) rfl (fun ls hl => ?_)
        refine lv_goto (tgt := 2) hx hb dX6_lowestEmpty_21 (by decide) ?_
        have hk4 := nge_nI (n := 400) hv hk (by decide) c_6
        rw [ev1, cl_nI hv (by omega), m5 k hk4, sh_le0 hI] at c_15
        obtain ⟨y, hy⟩ : ∃ y, s_s S k = some y := by
          cases hs : s_s S k with
          | none => exact absurd hs c_15
          | some y => exact ⟨y, rfl⟩
        exact ih (ls := ls) (k := k + 1) (v := v2) (hk := by omega) (hv := by rw [ev2, hv]; exact nI_1 k) (hE := by rw [hE, low_miss hk4 hy]) (hl := hl) (hn := by omega)
end
section
section MPUB0
variable {p : Program} {l : Launch} {e : Env} {R : Room} {s : State} {m : MethodId} {args : Array Value} {below : List Frame} {meth : Method} {c : Code} {H : Heap} {locs : List Loc} {cells slots : Nat} {Q : State → Prop}
variable {cc : ByteArray} {nL pc : Nat} {ls : Array Slot} {rest st0 : List Value} {Ts : List Cond} {G : Gt} {A : Nat → Prop} {ws : va_W} {x ha at_ li : Nat} {S : St}
theorem kx_in (S9 : CallFix p m c cc nL s args Ts RX6) (w : Wd G A s ws H locs) (hR : RpM G x ha at_ li S ws) (hI : Inv S) {i : Int32} (hg : GoodIn Ts (wsV RX6 50 RX6 yX6_in wsX6_in)) (hsz : ls.size = nL) (hro : (rest.map fun v => v.category).sum ≤ 8) (hdg : decode cc pc = .ok (.invokevirtual 50, 3)) (hR0 : 2 ≤ R.frames ∧ 41 ≤ R.locals) (hf : cells ≤ R.cells ∧ slots ≤ R.slots)
    (kn : itm S i = none → W p l e R s m args below meth c H locs cells slots Q (F0 m (pc + 3) ls (.int (-1) :: rest))) (ks : ∀ (h : Nat) (o : Ob), itm S i = some h → s_o S h = some o → W p l e R s m args below meth c H locs cells slots Q (F0 m (pc + 3) ls (.int (nI h) :: rest))) : W p l e R s m args below meth c H locs cells slots Q (F0 m pc ls (.int i :: .ref x :: rest)) := by
  obtain ⟨hf0, af, m1, -⟩ := id hR
  refine k_vi S9 w (c_min l _ hR i) m1 rfl (cwV 1 S9.2.2.2.2 hg rfl rfl rfl (by decide +kernel) hR0) rfl hsz rfl hro hdg hf (fun r hr => ?_)
  subst hr
  cases hi : itm S i with
  | none => exact kn hi
  | some h =>
    obtain ⟨o, ho⟩ := itm_o hI hi
    exact ks h o hi ho
end MPUB0
theorem loV_thg {o : Ob} (h : 7 ≤ o_k o) : loV o = o_v o := by
  unfold loV
  rw [if_pos h]
set_option maxHeartbeats 4000000 in
set_option maxRecDepth 100000 in
theorem c_mkindOf (l : Launch) {G : Gt} {ws : va_W} (sz : Nat) {x ha at_ li : Nat} {S : St} (hR : RpM G x ha at_ li S ws) (hI : Inv S) (pl : Int32) : Met l yX6_kindOf wsX6_kindOf ({ frames := 2, cells := 0, slots := 0, locals := 41 } : Room) (Pw G [.ref x, .int pl] ws sz) (vp_Si (fun r : Int32 => r = sp_kindOf S pl)) 0 0 (fun _ => False) := by
  refine Met_pw (cc := cX6_kindOf) (maxL := 2) (ret := (some .int)) (by decide) rfl (Nat.le_of_ble_eq_true rfl) ?_
  intro p e s m below meth c ls hsz S9 hr hlk hnm w hl
  subst hsz
  replace S9 : CallFix p m c cX6_kindOf 2 s _ wsX6_kindOf RX6 := S9
  have hx := S9.1
  have hb := S9.2.1
  have hown := S9.2.2.2.1
  have hts := S9.2.2.2.2
  replace hl : lv_has ls 2 [(0, .ref x), (1, .int pl)] := hl
  obtain ⟨hf, af, hR1, -⟩ := id hR
  refine lv_aload_n hx hb dX6_kindOf_0 rfl (lv_at hl 0 rfl) ?_
  refine lv_iload_n hx hb dX6_kindOf_1 rfl (lv_at hl 1 rfl) ?_
  refine kx_in S9 w hR hI gX6_kindOf_X6_in hl.1 (Nat.le_of_ble_eq_true rfl) dX6_kindOf_2 ⟨Nat.le_of_ble_eq_true rfl, Nat.le_of_ble_eq_true rfl⟩ ⟨Nat.le_of_ble_eq_true rfl, Nat.le_of_ble_eq_true rfl⟩ (fun i_2 => ?_) (fun h o i_2 ho => ?_)
  · refine lv_if_ge (tgt := 12) hx hb dX6_kindOf_5 (by decide) (fun c_5 => absurd c_5 (by decide)) (fun c_5 => ?_)
    refine lv_iconst (v := (-1)) hx hb dX6_kindOf_8 (by decide) ?_
    refine lv_goto (tgt := 21) hx hb dX6_kindOf_9 (by decide) ?_
    exact e_i S9 hr hlk (by simp [sp_kindOf, obj_none i_2]) dX6_kindOf_21
  · refine lv_if_ge (tgt := 12) hx hb dX6_kindOf_5 (by decide) (fun c_5 => ?_) (fun c_5 => absurd (nI_pos' (by have := hI.hd ho; omega)) c_5)
    refine lv_aload_n hx hb dX6_kindOf_12 rfl (lv_at hl 0 rfl) ?_
    refine lv_aload_n hx hb dX6_kindOf_13 rfl (lv_at hl 0 rfl) ?_
    refine lv_iload_n hx hb dX6_kindOf_14 rfl (lv_at hl 1 rfl) ?_
    refine k_vi S9 w (c_min l _ hR pl) hR1 rfl (cwV 1 hts gX6_kindOf_X6_in rfl rfl rfl (by decide +kernel) ⟨Nat.le_of_ble_eq_true rfl, Nat.le_of_ble_eq_true rfl⟩) rfl hl.1 rfl (Nat.le_of_ble_eq_true rfl) dX6_kindOf_15 ⟨Nat.le_of_ble_eq_true rfl, Nat.le_of_ble_eq_true rfl⟩ (fun r1 er1 => ?_)
    rw [i_2] at er1
    replace er1 : r1 = nI h := er1
    subst er1
    refine k_vi S9 w (c_mkind l _ hR hI ho) hR1 rfl (cwV 1 hts gX6_kindOf_X6_kind rfl rfl rfl (by decide +kernel) ⟨Nat.le_of_ble_eq_true rfl, Nat.le_of_ble_eq_true rfl⟩) rfl hl.1 rfl (Nat.le_of_ble_eq_true rfl) dX6_kindOf_18 ⟨Nat.le_of_ble_eq_true rfl, Nat.le_of_ble_eq_true rfl⟩ (fun r2 er2 => ?_)
    subst er2
    exact e_i S9 hr hlk (by simp [sp_kindOf, obj_some i_2 ho]) dX6_kindOf_21

set_option maxHeartbeats 4000000 in
set_option maxRecDepth 100000 in
theorem c_mlength (l : Launch) {G : Gt} {ws : va_W} (sz : Nat) {x ha at_ li : Nat} {S : St} (hR : RpM G x ha at_ li S ws) (hI : Inv S) (pl : Int32) : Met l yX6_length wsX6_length ({ frames := 2, cells := 0, slots := 0, locals := 42 } : Room) (Pw G [.ref x, .int pl] ws sz) (vp_Si (fun r : Int32 => r = sp_length S pl)) 0 0 (fun _ => False) := by
  refine Met_pw (cc := cX6_length) (maxL := 3) (ret := (some .int)) (by decide) rfl (Nat.le_of_ble_eq_true rfl) ?_
  intro p e s m below meth c ls hsz S9 hr hlk hnm w hl
  subst hsz
  replace S9 : CallFix p m c cX6_length 3 s _ wsX6_length RX6 := S9
  have hx := S9.1
  have hb := S9.2.1
  have hown := S9.2.2.2.1
  have hts := S9.2.2.2.2
  replace hl : lv_has ls 3 [(0, .ref x), (1, .int pl)] := hl
  obtain ⟨hf, af, hR1, -⟩ := id hR
  refine lv_aload_n hx hb dX6_length_0 rfl (lv_at hl 0 rfl) ?_
  refine lv_iload_n hx hb dX6_length_1 rfl (lv_at hl 1 rfl) ?_
  refine kx_in S9 w hR hI gX6_length_X6_in hl.1 (Nat.le_of_ble_eq_true rfl) dX6_length_2 ⟨Nat.le_of_ble_eq_true rfl, Nat.le_of_ble_eq_true rfl⟩ ⟨Nat.le_of_ble_eq_true rfl, Nat.le_of_ble_eq_true rfl⟩ (fun i_2 => ?_) (fun h o i_2 ho => ?_)
  · refine lv_istore_n (lv' := [(2, .int (-1)), (0, .ref x), (1, .int pl)]) hx hb dX6_length_5 rfl hl (by decide) rfl (fun ls hl => ?_)
    refine lv_iload_n hx hb dX6_length_6 rfl (lv_at hl 0 rfl) ?_
    refine lv_if_ge (tgt := 12) hx hb dX6_length_7 (by decide) (fun c_7 => absurd c_7 (by decide)) (fun c_7 => ?_)
    refine lv_iconst (v := (-1)) hx hb dX6_length_10 (by decide) ?_
    exact e_i S9 hr hlk (by simp [sp_length, obj_none i_2]) dX6_length_11
  · rcases (show o_k o ≤ 3 ∨ (4 ≤ o_k o ∧ o_k o ≤ 6) ∨ 7 ≤ o_k o by omega) with hk | ⟨hk, hm⟩ | hk
    · refine lv_istore_n (lv' := [(2, .int (nI h)), (0, .ref x), (1, .int pl)]) hx hb dX6_length_5 rfl hl (by decide) rfl (fun ls hl => ?_)
      refine lv_iload_n hx hb dX6_length_6 rfl (lv_at hl 0 rfl) ?_
      refine lv_if_ge (tgt := 12) hx hb dX6_length_7 (by decide) (fun c_7 => ?_) (fun c_7 => absurd (nI_pos' (by have := hI.hd ho; omega)) c_7)
      refine lv_aload_n hx hb dX6_length_12 rfl (lv_at hl 1 rfl) ?_
      refine lv_iload_n hx hb dX6_length_13 rfl (lv_at hl 0 rfl) ?_
      refine k_vi S9 w (c_misThing l _ hR hI ho) hR1 rfl (cwV 1 hts gX6_length_X6_isThing rfl rfl rfl (by decide +kernel) ⟨Nat.le_of_ble_eq_true rfl, Nat.le_of_ble_eq_true rfl⟩) rfl hl.1 rfl (Nat.le_of_ble_eq_true rfl) dX6_length_14 ⟨Nat.le_of_ble_eq_true rfl, Nat.le_of_ble_eq_true rfl⟩ (fun r1 er1 => ?_)
      rw [if_neg (by omega)] at er1
      subst er1
      refine lv_if_eq (tgt := 25) hx hb dX6_length_17 (by decide) (fun c_17 => ?_) (fun c_17 => absurd c_17 (by decide))
      refine lv_aload_n hx hb dX6_length_25 rfl (lv_at hl 1 rfl) ?_
      refine lv_iload_n hx hb dX6_length_26 rfl (lv_at hl 0 rfl) ?_
      refine k_vi S9 w (c_mlow l _ hR hI ho) hR1 rfl (cwV 1 hts gX6_length_X6_low rfl rfl rfl (by decide +kernel) ⟨Nat.le_of_ble_eq_true rfl, Nat.le_of_ble_eq_true rfl⟩) rfl hl.1 rfl (Nat.le_of_ble_eq_true rfl) dX6_length_27 ⟨Nat.le_of_ble_eq_true rfl, Nat.le_of_ble_eq_true rfl⟩ (fun r2 er2 => ?_)
      rw [loV_row (by omega)] at er2
      subst er2
      exact e_i S9 hr hlk (by simp [sp_length, obj_some i_2 ho, show ¬ 7 ≤ o_k o by omega]) dX6_length_30
    · refine lv_istore_n (lv' := [(2, .int (nI h)), (0, .ref x), (1, .int pl)]) hx hb dX6_length_5 rfl hl (by decide) rfl (fun ls hl => ?_)
      refine lv_iload_n hx hb dX6_length_6 rfl (lv_at hl 0 rfl) ?_
      refine lv_if_ge (tgt := 12) hx hb dX6_length_7 (by decide) (fun c_7 => ?_) (fun c_7 => absurd (nI_pos' (by have := hI.hd ho; omega)) c_7)
      refine lv_aload_n hx hb dX6_length_12 rfl (lv_at hl 1 rfl) ?_
      refine lv_iload_n hx hb dX6_length_13 rfl (lv_at hl 0 rfl) ?_
      refine k_vi S9 w (c_misThing l _ hR hI ho) hR1 rfl (cwV 1 hts gX6_length_X6_isThing rfl rfl rfl (by decide +kernel) ⟨Nat.le_of_ble_eq_true rfl, Nat.le_of_ble_eq_true rfl⟩) rfl hl.1 rfl (Nat.le_of_ble_eq_true rfl) dX6_length_14 ⟨Nat.le_of_ble_eq_true rfl, Nat.le_of_ble_eq_true rfl⟩ (fun r3 er3 => ?_)
      rw [if_neg (by omega)] at er3
      subst er3
      refine lv_if_eq (tgt := 25) hx hb dX6_length_17 (by decide) (fun c_17 => ?_) (fun c_17 => absurd c_17 (by decide))
      refine lv_aload_n hx hb dX6_length_25 rfl (lv_at hl 1 rfl) ?_
      refine lv_iload_n hx hb dX6_length_26 rfl (lv_at hl 0 rfl) ?_
      refine k_vi S9 w (c_mlow l _ hR hI ho) hR1 rfl (cwV 1 hts gX6_length_X6_low rfl rfl rfl (by decide +kernel) ⟨Nat.le_of_ble_eq_true rfl, Nat.le_of_ble_eq_true rfl⟩) rfl hl.1 rfl (Nat.le_of_ble_eq_true rfl) dX6_length_27 ⟨Nat.le_of_ble_eq_true rfl, Nat.le_of_ble_eq_true rfl⟩ (fun r4 er4 => ?_)
      rw [loV_row (by omega)] at er4
      subst er4
      exact e_i S9 hr hlk (by simp [sp_length, obj_some i_2 ho, show ¬ 7 ≤ o_k o by omega]) dX6_length_30
    · refine lv_istore_n (lv' := [(2, .int (nI h)), (0, .ref x), (1, .int pl)]) hx hb dX6_length_5 rfl hl (by decide) rfl (fun ls hl => ?_)
      refine lv_iload_n hx hb dX6_length_6 rfl (lv_at hl 0 rfl) ?_
      refine lv_if_ge (tgt := 12) hx hb dX6_length_7 (by decide) (fun c_7 => ?_) (fun c_7 => absurd (nI_pos' (by have := hI.hd ho; omega)) c_7)
      refine lv_aload_n hx hb dX6_length_12 rfl (lv_at hl 1 rfl) ?_
      refine lv_iload_n hx hb dX6_length_13 rfl (lv_at hl 0 rfl) ?_
      refine k_vi S9 w (c_misThing l _ hR hI ho) hR1 rfl (cwV 1 hts gX6_length_X6_isThing rfl rfl rfl (by decide +kernel) ⟨Nat.le_of_ble_eq_true rfl, Nat.le_of_ble_eq_true rfl⟩) rfl hl.1 rfl (Nat.le_of_ble_eq_true rfl) dX6_length_14 ⟨Nat.le_of_ble_eq_true rfl, Nat.le_of_ble_eq_true rfl⟩ (fun r5 er5 => ?_)
      rw [if_pos (by omega)] at er5
      subst er5
      refine lv_if_eq (tgt := 25) hx hb dX6_length_17 (by decide) (fun c_17 => absurd c_17 (by decide)) (fun c_17 => ?_)
      refine lv_bipush (v := (-2)) hx hb dX6_length_20 (by decide) ?_
      refine lv_goto (tgt := 30) hx hb dX6_length_22 (by decide) ?_
      exact e_i S9 hr hlk (by simp [sp_length, obj_some i_2 ho, hk]) dX6_length_30

set_option maxHeartbeats 4000000 in
set_option maxRecDepth 100000 in
theorem c_msame (l : Launch) {G : Gt} {ws : va_W} (sz : Nat) {x ha at_ li : Nat} {S : St} (hR : RpM G x ha at_ li S ws) (hI : Inv S) (a b : Int32) : Met l yX6_same wsX6_same ({ frames := 2, cells := 0, slots := 0, locals := 41 } : Room) (Pw G [.ref x, .int a, .int b] ws sz) (vp_Si (fun r : Int32 => r = sp_same S a b)) 0 0 (fun _ => False) := by
  refine Met_pw (cc := cX6_same) (maxL := 3) (ret := (some .int)) (by decide) rfl (Nat.le_of_ble_eq_true rfl) ?_
  intro p e s m below meth c ls hsz S9 hr hlk hnm w hl
  subst hsz
  replace S9 : CallFix p m c cX6_same 3 s _ wsX6_same RX6 := S9
  have hx := S9.1
  have hb := S9.2.1
  have hown := S9.2.2.2.1
  have hts := S9.2.2.2.2
  replace hl : lv_has ls 3 [(0, .ref x), (1, .int a), (2, .int b)] := hl
  obtain ⟨hf, af, hR1, -⟩ := id hR
  refine lv_aload_n hx hb dX6_same_0 rfl (lv_at hl 0 rfl) ?_
  refine lv_iload_n hx hb dX6_same_1 rfl (lv_at hl 1 rfl) ?_
  refine kx_in S9 w hR hI gX6_same_X6_in hl.1 (Nat.le_of_ble_eq_true rfl) dX6_same_2 ⟨Nat.le_of_ble_eq_true rfl, Nat.le_of_ble_eq_true rfl⟩ ⟨Nat.le_of_ble_eq_true rfl, Nat.le_of_ble_eq_true rfl⟩ (fun i_2 => ?_) (fun h o i_2 ho => ?_)
  · refine lv_if_lt (tgt := 16) hx hb dX6_same_5 (by decide) (fun c_5 => ?_) (fun c_5 => absurd c_5 (by decide))
    refine lv_iconst (v := (-1)) hx hb dX6_same_16 (by decide) ?_
    exact e_i S9 hr hlk (by simp [sp_same, i_2]) dX6_same_17
  · refine lv_if_lt (tgt := 16) hx hb dX6_same_5 (by decide) (fun c_5 => absurd c_5 (nI_pos (by have := hI.hd ho; omega))) (fun c_5 => ?_)
    refine lv_aload_n hx hb dX6_same_8 rfl (lv_at hl 0 rfl) ?_
    refine lv_iload_n hx hb dX6_same_9 rfl (lv_at hl 2 rfl) ?_
    refine kx_in S9 w hR hI gX6_same_X6_in hl.1 (Nat.le_of_ble_eq_true rfl) dX6_same_10 ⟨Nat.le_of_ble_eq_true rfl, Nat.le_of_ble_eq_true rfl⟩ ⟨Nat.le_of_ble_eq_true rfl, Nat.le_of_ble_eq_true rfl⟩ (fun i_10 => ?_) (fun h9 o9 i_10 ho9 => ?_)
    · refine lv_if_ge (tgt := 18) hx hb dX6_same_13 (by decide) (fun c_13 => absurd c_13 (by decide)) (fun c_13 => ?_)
      refine lv_iconst (v := (-1)) hx hb dX6_same_16 (by decide) ?_
      exact e_i S9 hr hlk (by simp [sp_same, i_2, i_10]) dX6_same_17
    · refine lv_if_ge (tgt := 18) hx hb dX6_same_13 (by decide) (fun c_13 => ?_) (fun c_13 => absurd (nI_pos' (by have := hI.hd ho9; omega)) c_13)
      refine lv_aload_n hx hb dX6_same_18 rfl (lv_at hl 0 rfl) ?_
      refine lv_iload_n hx hb dX6_same_19 rfl (lv_at hl 1 rfl) ?_
      refine k_vi S9 w (c_min l _ hR a) hR1 rfl (cwV 1 hts gX6_same_X6_in rfl rfl rfl (by decide +kernel) ⟨Nat.le_of_ble_eq_true rfl, Nat.le_of_ble_eq_true rfl⟩) rfl hl.1 rfl (Nat.le_of_ble_eq_true rfl) dX6_same_20 ⟨Nat.le_of_ble_eq_true rfl, Nat.le_of_ble_eq_true rfl⟩ (fun r1 er1 => ?_)
      rw [i_2] at er1
      replace er1 : r1 = nI h := er1
      subst er1
      refine lv_aload_n hx hb dX6_same_23 rfl (lv_at hl 0 rfl) ?_
      refine lv_iload_n hx hb dX6_same_24 rfl (lv_at hl 2 rfl) ?_
      refine k_vi S9 w (c_min l _ hR b) hR1 rfl (cwV 1 hts gX6_same_X6_in rfl rfl rfl (by decide +kernel) ⟨Nat.le_of_ble_eq_true rfl, Nat.le_of_ble_eq_true rfl⟩) rfl hl.1 rfl (Nat.le_of_ble_eq_true rfl) dX6_same_25 ⟨Nat.le_of_ble_eq_true rfl, Nat.le_of_ble_eq_true rfl⟩ (fun r2 er2 => ?_)
      rw [i_10] at er2
      replace er2 : r2 = nI h9 := er2
      subst er2
      refine lv_icmp_ne (tgt := 35) hx hb dX6_same_28 (by decide) (fun c_28 => ?_) (fun c_28 => ?_)
      · refine lv_iconst (v := 0) hx hb dX6_same_35 (by decide) ?_
        exact e_i S9 hr hlk (by have q : ¬ h = h9 := (fun q => c_28 (by rw [q])); simp [sp_same, i_2, i_10, q]) dX6_same_36
      · refine lv_iconst (v := 1) hx hb dX6_same_31 (by decide) ?_
        refine lv_goto (tgt := 36) hx hb dX6_same_32 (by decide) ?_
        exact e_i S9 hr hlk (by have q := (nI_eq (by have := hI.hd ho; omega) (by have := hI.hd ho9; omega)).mp c_28; simp [sp_same, i_2, i_10, q]) dX6_same_36

set_option maxHeartbeats 4000000 in
set_option maxRecDepth 100000 in
theorem c_mwhy (l : Launch) {G : Gt} {ws : va_W} (sz : Nat) {x ha at_ li : Nat} {S : St} (hR : RpM G x ha at_ li S ws) : Met l yX6_why wsX6_why ({ frames := 0, cells := 0, slots := 0, locals := 0 } : Room) (Pw G [.ref x] ws sz) (vp_Si (fun r : Int32 => r = s_c S 2)) 0 0 (fun _ => False) := by
  refine Met_pw (cc := cX6_why) (maxL := 1) (ret := (some .int)) (by decide) rfl (Nat.le_of_ble_eq_true rfl) ?_
  intro p e s m below meth c ls hsz S9 hr hlk hnm w hl
  subst hsz
  replace S9 : CallFix p m c cX6_why 1 s _ wsX6_why RX6 := S9
  have hx := S9.1
  have hb := S9.2.1
  have hown := S9.2.2.2.1
  have hts := S9.2.2.2.2
  replace hl : lv_has ls 1 [(0, .ref x)] := hl
  obtain ⟨hf, af, m1, m2, m3, m4, m5, m6⟩ := hR
  refine lv_aload_n hx hb dX6_why_0 rfl (lv_at hl 0 rfl) ?_
  refine r_get (ref := "SpanMoverModel") S9 w m1 rfl (by decide +kernel) 5 (by decide) (by decide +kernel) (Or.inl rfl) rfl dX6_why_1 ?_
  exact e_i S9 hr hlk (rfl) dX6_why_4

set_option maxHeartbeats 4000000 in
set_option maxRecDepth 100000 in
theorem c_mmoved (l : Launch) {G : Gt} {ws : va_W} (sz : Nat) {x ha at_ li : Nat} {S : St} (hR : RpM G x ha at_ li S ws) : Met l yX6_moved wsX6_moved ({ frames := 0, cells := 0, slots := 0, locals := 0 } : Room) (Pw G [.ref x] ws sz) (vp_Si (fun r : Int32 => r = s_c S 3)) 0 0 (fun _ => False) := by
  refine Met_pw (cc := cX6_moved) (maxL := 1) (ret := (some .int)) (by decide) rfl (Nat.le_of_ble_eq_true rfl) ?_
  intro p e s m below meth c ls hsz S9 hr hlk hnm w hl
  subst hsz
  replace S9 : CallFix p m c cX6_moved 1 s _ wsX6_moved RX6 := S9
  have hx := S9.1
  have hb := S9.2.1
  have hown := S9.2.2.2.1
  have hts := S9.2.2.2.2
  replace hl : lv_has ls 1 [(0, .ref x)] := hl
  obtain ⟨hf, af, m1, m2, m3, m4, m5, m6⟩ := hR
  refine lv_aload_n hx hb dX6_moved_0 rfl (lv_at hl 0 rfl) ?_
  refine r_get (ref := "SpanMoverModel") S9 w m1 rfl (by decide +kernel) 7 (by decide) (by decide +kernel) (Or.inl rfl) rfl dX6_moved_1 ?_
  exact e_i S9 hr hlk (rfl) dX6_moved_4

set_option maxHeartbeats 4000000 in
set_option maxRecDepth 100000 in
theorem c_mended (l : Launch) {G : Gt} {ws : va_W} (sz : Nat) {x ha at_ li : Nat} {S : St} (hR : RpM G x ha at_ li S ws) : Met l yX6_ended wsX6_ended ({ frames := 0, cells := 0, slots := 0, locals := 0 } : Room) (Pw G [.ref x] ws sz) (vp_Si (fun r : Int32 => r = s_c S 4)) 0 0 (fun _ => False) := by
  refine Met_pw (cc := cX6_ended) (maxL := 1) (ret := (some .int)) (by decide) rfl (Nat.le_of_ble_eq_true rfl) ?_
  intro p e s m below meth c ls hsz S9 hr hlk hnm w hl
  subst hsz
  replace S9 : CallFix p m c cX6_ended 1 s _ wsX6_ended RX6 := S9
  have hx := S9.1
  have hb := S9.2.1
  have hown := S9.2.2.2.1
  have hts := S9.2.2.2.2
  replace hl : lv_has ls 1 [(0, .ref x)] := hl
  obtain ⟨hf, af, m1, m2, m3, m4, m5, m6⟩ := hR
  refine lv_aload_n hx hb dX6_ended_0 rfl (lv_at hl 0 rfl) ?_
  refine r_get (ref := "SpanMoverModel") S9 w m1 rfl (by decide +kernel) 6 (by decide) (by decide +kernel) (Or.inl rfl) rfl dX6_ended_1 ?_
  exact e_i S9 hr hlk (rfl) dX6_ended_4

set_option maxHeartbeats 4000000 in
set_option maxRecDepth 100000 in
theorem c_mcount (l : Launch) {G : Gt} {ws : va_W} (sz : Nat) {x ha at_ li : Nat} {S : St} (hR : RpM G x ha at_ li S ws) (hI : Inv S) (i : Int32) : Met l yX6_count wsX6_count ({ frames := 0, cells := 0, slots := 0, locals := 0 } : Room) (Pw G [.ref x, .int i] ws sz) (vp_Si (fun r : Int32 => r = sp_count S i)) 0 0 (fun _ => False) := by
  refine Met_pw (cc := cX6_count) (maxL := 4) (ret := (some .int)) (by decide) rfl (Nat.le_of_ble_eq_true rfl) ?_
  intro p e s m below meth c ls hsz S9 hr hlk hnm w hl
  subst hsz
  replace S9 : CallFix p m c cX6_count 4 s _ wsX6_count RX6 := S9
  have hx := S9.1
  have hb := S9.2.1
  have hown := S9.2.2.2.1
  have hts := S9.2.2.2.2
  replace hl : lv_has ls 4 [(0, .ref x), (1, .int i)] := hl
  obtain ⟨hf, af, m1, m2, m3, m4, m5, m6⟩ := hR
  refine lv_iconst (v := 0) hx hb dX6_count_0 (by decide) ?_
  refine lv_istore_n (lv' := [(2, .int 0), (0, .ref x), (1, .int i)]) hx hb dX6_count_1 rfl hl (by decide) rfl (fun ls hl => ?_)
  refine lv_iconst (v := 0) hx hb dX6_count_2 (by decide) ?_
  refine lv_istore_n (lv' := [(3, .int 0), (2, .int 0), (0, .ref x), (1, .int i)]) hx hb dX6_count_3 rfl hl (by decide) rfl (fun ls hl => ?_)
  obtain ⟨k, hk, hv, ht⟩ : ∃ k : Nat, k ≤ 400 ∧ (0 : Int32) = nI k ∧ (0 : Int32) = nI (tkn (s_s S) k) := ⟨0, by omega, rfl, rfl⟩
  obtain ⟨v, hv0⟩ : ∃ v : Int32, v = 0 := ⟨_, rfl⟩
  obtain ⟨t, ht0⟩ : ∃ t : Int32, t = 0 := ⟨_, rfl⟩
  replace hl : lv_has ls 4 [(3, .int v), (2, .int t), (0, .ref x), (1, .int i)] := by rw [hv0, ht0]; exact hl
  rw [← hv0] at hv
  rw [← ht0] at ht
  clear hv0 ht0
  obtain ⟨n, hn⟩ : ∃ n, 400 - k < n := ⟨_, Nat.lt_succ_self _⟩
  induction n generalizing k v t ls with
  | zero => exact absurd hn (Nat.not_lt_zero _)
  | succ n ih =>
    refine lv_iload_n hx hb dX6_count_4 rfl (lv_at hl 0 rfl) ?_
    refine lv_sipush (v := 400) hx hb dX6_count_5 (by decide) ?_
    refine lv_icmp_ge (tgt := 34) hx hb dX6_count_8 (by decide) (fun c_8 => ?_) (fun c_8 => ?_)
    · refine lv_iload_n hx hb dX6_count_34 rfl (lv_at hl 3 rfl) ?_
      have h4 := ge_nI (n := 400) hv hk (by decide) c_8
      subst h4
      rcases sw5 i with rfl | rfl | rfl | rfl | rfl | hi
      · refine lv_tableIn (off := 33) (tgt := 68) hx hb dX6_count_35 (by decide) (by decide) (by decide) (by decide) ?_
        refine lv_iload_n hx hb dX6_count_68 rfl (lv_at hl 1 rfl) ?_
        exact e_i S9 hr hlk (ht) dX6_count_69
      · refine lv_tableIn (off := 35) (tgt := 70) hx hb dX6_count_35 (by decide) (by decide) (by decide) (by decide) ?_
        refine lv_ldc (v := 60000) hx hb hown (hts (.constant RX6 7 (60000)) (by decide +kernel)) dX6_count_70 ?_
        refine lv_aload_n hx hb dX6_count_72 rfl (lv_at hl 2 rfl) ?_
        refine r_get (ref := "SpanMoverModel") S9 w m1 rfl (by decide +kernel) 1 (by decide) (by decide +kernel) (Or.inl rfl) rfl dX6_count_73 ?_
        refine lv_isub hx hb dX6_count_76 ?_
        refine lv_topi (fun v1 ev1 => ?_)
        exact e_i S9 hr hlk (by rw [ev1]; show _ = s_c S 1; rw [hI.2.1]; exact pk_sub (a := 60000) hI.1) dX6_count_77
      · refine lv_tableIn (off := 43) (tgt := 78) hx hb dX6_count_35 (by decide) (by decide) (by decide) (by decide) ?_
        refine lv_aload_n hx hb dX6_count_78 rfl (lv_at hl 2 rfl) ?_
        refine r_get (ref := "SpanMoverModel") S9 w m1 rfl (by decide +kernel) 4 (by decide) (by decide +kernel) (Or.inl rfl) rfl dX6_count_79 ?_
        exact e_i S9 hr hlk (rfl) dX6_count_82
      · refine lv_tableIn (off := 48) (tgt := 83) hx hb dX6_count_35 (by decide) (by decide) (by decide) (by decide) ?_
        refine lv_aload_n hx hb dX6_count_83 rfl (lv_at hl 2 rfl) ?_
        refine r_get (ref := "SpanMoverModel") S9 w m1 rfl (by decide +kernel) 8 (by decide) (by decide +kernel) (Or.inl rfl) rfl dX6_count_84 ?_
        exact e_i S9 hr hlk (rfl) dX6_count_87
      · refine lv_tableIn (off := 53) (tgt := 88) hx hb dX6_count_35 (by decide) (by decide) (by decide) (by decide) ?_
        refine lv_aload_n hx hb dX6_count_88 rfl (lv_at hl 2 rfl) ?_
        refine r_get (ref := "SpanMoverModel") S9 w m1 rfl (by decide +kernel) 9 (by decide) (by decide +kernel) (Or.inl rfl) rfl dX6_count_89 ?_
        exact e_i S9 hr hlk (rfl) dX6_count_92
      · refine lv_tableOut (tgt := 93) hx hb dX6_count_35 hi (by decide) ?_
        refine lv_iconst (v := (-1)) hx hb dX6_count_93 (by decide) ?_
        exact e_i S9 hr hlk (by have h0 : ¬ i = 0 := (fun q => by subst q; revert hi; decide); have h1 : ¬ i = 1 := (fun q => by subst q; revert hi; decide); have h2 : ¬ i = 2 := (fun q => by subst q; revert hi; decide); have h3 : ¬ i = 3 := (fun q => by subst q; revert hi; decide); have h4 : ¬ i = 4 := (fun q => by subst q; revert hi; decide); simp [sp_count, h0, h1, h2, h3, h4]) dX6_count_94
    · refine lv_aload_n hx hb dX6_count_11 rfl (lv_at hl 2 rfl) ?_
      refine r_get (ref := "SpanMoverModel") S9 w m1 rfl (by decide +kernel) 2 (by decide) (by decide +kernel) (Or.inl rfl) rfl dX6_count_12 ?_
      refine lv_iload_n hx hb dX6_count_15 rfl (lv_at hl 0 rfl) ?_
      refine r_iald S9 w m3 (in_nI (n := 400) hv hk (by decide) c_8) dX6_count_16 ?_
      refine lv_topi (fun v2 ev2 => ?_)
      refine lv_if_le (tgt := 26) hx hb dX6_count_17 (by decide) (fun c_17 => ?_) (fun c_17 => ?_)
      · refine lv_iload_n hx hb dX6_count_26 rfl (lv_at hl 1 rfl) ?_
        refine lv_istore_n (lv' := [(2, .int t), (3, .int v), (0, .ref x), (1, .int i)]) hx hb dX6_count_27 rfl hl (by decide) rfl (fun ls hl => ?_)
        obtain ⟨v3, ev3⟩ : ∃ z : Int32, z = v + 1 := ⟨_, rfl⟩
        refine lv_iinc (v := v3) (lv' := [(3, .int v3), (2, .int t), (0, .ref x), (1, .int i)]) hx hb dX6_count_28 hl (k := 1) rfl (by rw [ev3]; rfl) (by decide) rfl (fun ls hl => ?_)
        refine lv_goto (tgt := 4) hx hb dX6_count_31 (by decide) ?_
        have hk4 := nge_nI (n := 400) hv hk (by decide) c_8
        rw [ev2, cl_nI hv (by omega), m5 k hk4, sh_le0 hI] at c_17
        exact ih (ls := ls) (k := k + 1) (v := v3) (t := t) (hk := by omega) (hv := by rw [ev3, hv]; exact nI_1 k) (ht := by
            cases hs : s_s S k with
            | none => simp [tkn, hs, ht]
            | some y => rw [hs] at c_17; cases c_17) (hl := lv_sub hl [0, 1, 2, 3] rfl) (hn := by omega)
      · refine lv_iload_n hx hb dX6_count_20 rfl (lv_at hl 1 rfl) ?_
        refine lv_iconst (v := 1) hx hb dX6_count_21 (by decide) ?_
        refine lv_iadd hx hb dX6_count_22 ?_
        refine lv_topi (fun v4 ev4 => ?_)
        refine lv_goto (tgt := 27) hx hb dX6_count_23 (by decide) ?_
        refine lv_istore_n (lv' := [(2, .int v4), (3, .int v), (0, .ref x), (1, .int i)]) hx hb dX6_count_27 rfl hl (by decide) rfl (fun ls hl => ?_)
        obtain ⟨v5, ev5⟩ : ∃ z : Int32, z = v + 1 := ⟨_, rfl⟩
        refine lv_iinc (v := v5) (lv' := [(3, .int v5), (2, .int v4), (0, .ref x), (1, .int i)]) hx hb dX6_count_28 hl (k := 1) rfl (by rw [ev5]; rfl) (by decide) rfl (fun ls hl => ?_)
        refine lv_goto (tgt := 4) hx hb dX6_count_31 (by decide) ?_
        have hk4 := nge_nI (n := 400) hv hk (by decide) c_8
        rw [ev2, cl_nI hv (by omega), m5 k hk4, sh_le0 hI] at c_17
        exact ih (ls := ls) (k := k + 1) (v := v5) (t := v4) (hk := by omega) (hv := by rw [ev5, hv]; exact nI_1 k) (ht := by
            cases hs : s_s S k with
            | none => exact absurd hs c_17
            | some y => simp [tkn, hs, ev4, ht, nI_succ]) (hl := lv_sub hl [0, 1, 2, 3] rfl) (hn := by omega)
end
section
theorem fitE_of {S : St} {k h : Nat} {o : Ob} (ho : s_o S h = some o) : fitE S k (some h) = decide ((k = 4 ∧ o_k o = 0) ∨ (k = 5 ∧ (o_k o = 7 ∨ o_k o = 8)) ∨ (k = 6 ∧ o_k o = 8)) := by
  unfold fitE
  rw [show obj S (some h) = some o from ho]
theorem fit7 {k k' : Nat} (hk : 4 ≤ k) (hm : k ≤ 6) (hf : fitK k k') (h0 : ¬ k' = 0) : 7 ≤ k' := by
  rw [fitK_iff hk hm] at hf
  omega
theorem mne {G : Gt} {A : Nat → Prop} {ws : va_W} {x ha at_ li : Nat} {fs : List Value} {hf : Nat → Int64} {af lf : Nat → Int32} (hD : va_D A ws) (m1 : hp ws x (.inr (4, fs))) (m2 : hp ws ha (aJ G 60000 hf)) (m3 : hp ws at_ (aI G 400 af)) (m4 : hp ws li (aI G 320 lf)) : (x ≠ ha ∧ x ≠ at_ ∧ x ≠ li) ∧ ha ≠ at_ ∧ ha ≠ li ∧ at_ ≠ li :=
  ⟨⟨hp_ne_of hD m1 m2 (fun q => by cases q), hp_ne_of hD m1 m3 (fun q => by cases q), hp_ne_of hD m1 m4 (fun q => by cases q)⟩, hp_ne_of hD m2 m3 (fun q => by simp at q), hp_ne_of hD m2 m4 (fun q => by simp at q), hp_ne_of hD m3 m4 (fun q => by simp at q)⟩
theorem RpM.sc {G : Gt} {x ha at_ li : Nat} {S : St} {A : Nat → Prop} {ws ws' : va_W} {f : Nat → Int32} {E : va_E} {fs : List Value} (hD : va_D A ws) (h : RpM G x ha at_ li S ws) (hx : hp ws x (.inr (4, fs))) (hW : hu ws x E ws') (hE : E = oM ha at_ li (nI (s_u S)) f) : RpM G x ha at_ li (s_u S, s_o S, s_s S, s_l S, f) ws' := by
  subst hE
  obtain ⟨hf, af, m1, m2, m3, m4, m5, m6⟩ := h
  obtain ⟨⟨n1, n2, n3⟩, -⟩ := mne hD m1 m2 m3 m4
  exact ⟨hf, af, hW.1, hW.keep n1.symm m2, hW.keep n2.symm m3, hW.keep n3.symm m4, m5, m6⟩
set_option maxHeartbeats 4000000 in
set_option maxRecDepth 100000 in
theorem c_mfits_N (l : Launch) {G : Gt} {ws : va_W} (sz : Nat) {x : Nat} (kk : Int32) : Met l yX6_fits wsX6_fits ({ frames := 1, cells := 0, slots := 0, locals := 21 } : Room) (Pw G [.ref x, .int (-1), .int kk] ws sz) (vp_Si (fun r : Int32 => r = 1)) 0 0 (fun _ => False) := by
  refine Met_pw (cc := cX6_fits) (maxL := 4) (ret := (some .boolean)) (by decide) rfl (Nat.le_of_ble_eq_true rfl) ?_
  intro p e s m below meth c ls hsz S9 hr hlk hnm w hl
  subst hsz
  replace S9 : CallFix p m c cX6_fits 4 s _ wsX6_fits RX6 := S9
  have hx := S9.1
  have hb := S9.2.1
  have hown := S9.2.2.2.1
  have hts := S9.2.2.2.2
  replace hl : lv_has ls 4 [(0, .ref x), (1, .int (-1)), (2, .int kk)] := hl
  refine lv_iload_n hx hb dX6_fits_0 rfl (lv_at hl 1 rfl) ?_
  refine lv_if_ge (tgt := 6) hx hb dX6_fits_1 (by decide) (fun c_1 => absurd c_1 (by decide)) (fun c_1 => ?_)
  refine lv_iconst (v := 1) hx hb dX6_fits_4 (by decide) ?_
  exact e_z S9 hr hlk (by first | exact Or.inl rfl | exact Or.inr rfl) (rfl) dX6_fits_5

set_option maxHeartbeats 4000000 in
set_option maxRecDepth 100000 in
theorem c_mfits_S (l : Launch) {G : Gt} {ws : va_W} (sz : Nat) {x ha at_ li : Nat} {S : St} (hR : RpM G x ha at_ li S ws) (hI : Inv S) {h : Nat} {o : Ob} (ho : s_o S h = some o) (k : Nat) (hk4 : 4 ≤ k) (hk6 : k ≤ 6) : Met l yX6_fits wsX6_fits ({ frames := 1, cells := 0, slots := 0, locals := 21 } : Room) (Pw G [.ref x, .int (nI h), .int (nI k)] ws sz) (vp_Si (fun r : Int32 => r = if fitE S k (some h) then 1 else 0)) 0 0 (fun _ => False) := by
  refine Met_pw (cc := cX6_fits) (maxL := 4) (ret := (some .boolean)) (by decide) rfl (Nat.le_of_ble_eq_true rfl) ?_
  intro p e s m below meth c ls hsz S9 hr hlk hnm w hl
  subst hsz
  replace S9 : CallFix p m c cX6_fits 4 s _ wsX6_fits RX6 := S9
  have hx := S9.1
  have hb := S9.2.1
  have hown := S9.2.2.2.1
  have hts := S9.2.2.2.2
  replace hl : lv_has ls 4 [(0, .ref x), (1, .int (nI h)), (2, .int (nI k))] := hl
  obtain ⟨hf, af, hR1, -⟩ := id hR
  refine lv_iload_n hx hb dX6_fits_0 rfl (lv_at hl 1 rfl) ?_
  refine lv_if_ge (tgt := 6) hx hb dX6_fits_1 (by decide) (fun c_1 => ?_) (fun c_1 => absurd (nI_pos' (by have := hI.hd ho; omega)) c_1)
  refine lv_aload_n hx hb dX6_fits_6 rfl (lv_at hl 0 rfl) ?_
  refine lv_iload_n hx hb dX6_fits_7 rfl (lv_at hl 1 rfl) ?_
  refine k_vi S9 w (c_mkind l _ hR hI ho) hR1 rfl (cwV 1 hts gX6_fits_X6_kind rfl rfl rfl (by decide +kernel) ⟨Nat.le_of_ble_eq_true rfl, Nat.le_of_ble_eq_true rfl⟩) rfl hl.1 rfl (Nat.le_of_ble_eq_true rfl) dX6_fits_8 ⟨Nat.le_of_ble_eq_true rfl, Nat.le_of_ble_eq_true rfl⟩ (fun r1 er1 => ?_)
  subst er1
  refine lv_istore_n (lv' := [(3, .int (nI (o_k o))), (0, .ref x), (1, .int (nI h)), (2, .int (nI k))]) hx hb dX6_fits_11 rfl hl (by decide) rfl (fun ls hl => ?_)
  refine lv_iload_n hx hb dX6_fits_12 rfl (lv_at hl 3 rfl) ?_
  refine lv_iconst (v := 4) hx hb dX6_fits_13 (by decide) ?_
  refine lv_icmp_ne (tgt := 29) hx hb dX6_fits_14 (by decide) (fun c_14 => ?_) (fun c_14 => ?_)
  · refine lv_iload_n hx hb dX6_fits_29 rfl (lv_at hl 3 rfl) ?_
    refine lv_iconst (v := 5) hx hb dX6_fits_30 (by decide) ?_
    refine lv_icmp_ne (tgt := 48) hx hb dX6_fits_31 (by decide) (fun c_31 => ?_) (fun c_31 => ?_)
    · refine lv_iload_n hx hb dX6_fits_48 rfl (lv_at hl 0 rfl) ?_
      refine lv_bipush (v := 8) hx hb dX6_fits_49 (by decide) ?_
      refine lv_icmp_ne (tgt := 58) hx hb dX6_fits_51 (by decide) (fun c_51 => ?_) (fun c_51 => ?_)
      · refine lv_iconst (v := 0) hx hb dX6_fits_58 (by decide) ?_
        exact e_z S9 hr hlk (by first | exact Or.inl rfl | exact Or.inr rfl) (by have k8 := (hI.ob ho).1; rw [fitE_of ho]; simp only [nIe4 (show k ≤ 8 by omega), nIe5 (show k ≤ 8 by omega)] at c_14 c_31; simp only [nIe0 k8, nIe8 k8] at c_51; rw [decide_eq_false (by omega)]; rfl) dX6_fits_59
      · refine lv_iconst (v := 1) hx hb dX6_fits_54 (by decide) ?_
        refine lv_goto (tgt := 59) hx hb dX6_fits_55 (by decide) ?_
        exact e_z S9 hr hlk (by first | exact Or.inl rfl | exact Or.inr rfl) (by have k8 := (hI.ob ho).1; rw [fitE_of ho]; simp only [nIe4 (show k ≤ 8 by omega), nIe5 (show k ≤ 8 by omega)] at c_14 c_31; simp only [nIe0 k8, nIe8 k8] at c_51; rw [decide_eq_true (by omega)]; rfl) dX6_fits_59
    · refine lv_iload_n hx hb dX6_fits_34 rfl (lv_at hl 0 rfl) ?_
      refine lv_bipush (v := 7) hx hb dX6_fits_35 (by decide) ?_
      refine lv_icmp_lt (tgt := 44) hx hb dX6_fits_37 (by decide) (fun c_37 => ?_) (fun c_37 => ?_)
      · refine lv_iconst (v := 0) hx hb dX6_fits_44 (by decide) ?_
        refine lv_goto (tgt := 59) hx hb dX6_fits_45 (by decide) ?_
        exact e_z S9 hr hlk (by first | exact Or.inl rfl | exact Or.inr rfl) (by have k8 := (hI.ob ho).1; rw [fitE_of ho]; simp only [nIe4 (show k ≤ 8 by omega), nIe5 (show k ≤ 8 by omega)] at c_14 c_31; have c37 : o_k o < 7 := (nI_ltI (b := 7) (by omega) (by decide)).mp c_37; rw [decide_eq_false (by omega)]; rfl) dX6_fits_59
      · refine lv_iconst (v := 1) hx hb dX6_fits_40 (by decide) ?_
        refine lv_goto (tgt := 59) hx hb dX6_fits_41 (by decide) ?_
        exact e_z S9 hr hlk (by first | exact Or.inl rfl | exact Or.inr rfl) (by have k8 := (hI.ob ho).1; rw [fitE_of ho]; simp only [nIe4 (show k ≤ 8 by omega), nIe5 (show k ≤ 8 by omega)] at c_14 c_31; have c37 : ¬ o_k o < 7 := (fun q => c_37 ((nI_ltI (b := 7) (by omega) (by decide)).mpr q)); rw [decide_eq_true (by omega)]; rfl) dX6_fits_59
  · refine lv_iload_n hx hb dX6_fits_17 rfl (lv_at hl 0 rfl) ?_
    refine lv_if_ne (tgt := 25) hx hb dX6_fits_18 (by decide) (fun c_18 => ?_) (fun c_18 => ?_)
    · refine lv_iconst (v := 0) hx hb dX6_fits_25 (by decide) ?_
      refine lv_goto (tgt := 59) hx hb dX6_fits_26 (by decide) ?_
      exact e_z S9 hr hlk (by first | exact Or.inl rfl | exact Or.inr rfl) (by have k8 := (hI.ob ho).1; rw [fitE_of ho]; simp only [nIe4 (show k ≤ 8 by omega), nIe5 (show k ≤ 8 by omega)] at c_14; simp only [nIe0 k8, nIe8 k8] at c_18; rw [decide_eq_false (by omega)]; rfl) dX6_fits_59
    · refine lv_iconst (v := 1) hx hb dX6_fits_21 (by decide) ?_
      refine lv_goto (tgt := 59) hx hb dX6_fits_22 (by decide) ?_
      exact e_z S9 hr hlk (by first | exact Or.inl rfl | exact Or.inr rfl) (by have k8 := (hI.ob ho).1; rw [fitE_of ho]; simp only [nIe4 (show k ≤ 8 by omega), nIe5 (show k ≤ 8 by omega)] at c_14; simp only [nIe0 k8, nIe8 k8] at c_18; rw [decide_eq_true (by omega)]; rfl) dX6_fits_59

set_option maxHeartbeats 4000000 in
set_option maxRecDepth 100000 in
theorem c_mtold_N (l : Launch) {G : Gt} {ws : va_W} (sz : Nat) {x ha at_ li : Nat} {S : St} (hR : RpM G x ha at_ li S ws) (hI : Inv S) {h : Nat} {o : Ob} (ho : s_o S h = some o) (hk : o_k o ≤ 3) (i : Int32) (i' : Nat) (ei : i = nI i') (hi' : i' < o_n o) : Met l yX6_told wsX6_told ({ frames := 2, cells := 0, slots := 0, locals := 42 } : Room) (Pw G [.ref x, .int (nI h), .int i] ws sz) (vp_Sl (fun r : Int64 => r = o_f o i')) 0 0 (fun _ => False) := by
  refine Met_pw (cc := cX6_told) (maxL := 4) (ret := (some .long)) (by decide) rfl (Nat.le_of_ble_eq_true rfl) ?_
  intro p e s m below meth c ls hsz S9 hr hlk hnm w hl
  subst hsz
  replace S9 : CallFix p m c cX6_told 4 s _ wsX6_told RX6 := S9
  have hx := S9.1
  have hb := S9.2.1
  have hown := S9.2.2.2.1
  have hts := S9.2.2.2.2
  replace hl : lv_has ls 4 [(0, .ref x), (1, .int (nI h)), (2, .int i)] := hl
  obtain ⟨hf, af, m1, m2, m3, m4, m5, m6⟩ := id hR
  have bh := hI.hd ho
  have m7 := (m6.1 h o ho).1
  have k8 := (hI.ob ho).1
  have n2 := (hI.ob ho).2
  have bs := (hI.2.2.2.1 h o ho).2.2
  have bu := hI.1
  refine lv_aload_n hx hb dX6_told_0 rfl (lv_at hl 0 rfl) ?_
  refine lv_iload_n hx hb dX6_told_1 rfl (lv_at hl 1 rfl) ?_
  refine k_vi S9 w (c_misOfObjects l _ hR hI ho) m1 rfl (cwV 1 hts gX6_told_X6_isOfObjects rfl rfl rfl (by decide +kernel) ⟨Nat.le_of_ble_eq_true rfl, Nat.le_of_ble_eq_true rfl⟩) rfl hl.1 rfl (Nat.le_of_ble_eq_true rfl) dX6_told_2 ⟨Nat.le_of_ble_eq_true rfl, Nat.le_of_ble_eq_true rfl⟩ (fun r1 er1 => ?_)
  rw [if_neg (by omega)] at er1
  subst er1
  refine lv_if_ne (tgt := 19) hx hb dX6_told_5 (by decide) (fun c_5 => absurd c_5 (by decide)) (fun c_5 => ?_)
  refine lv_aload_n hx hb dX6_told_8 rfl (lv_at hl 0 rfl) ?_
  refine r_get (ref := "SpanMoverModel") S9 w m1 rfl (by decide +kernel) 0 (by decide) (by decide +kernel) (Or.inl rfl) rfl dX6_told_9 ?_
  refine lv_iload_n hx hb dX6_told_12 rfl (lv_at hl 1 rfl) ?_
  refine lv_iconst (v := 1) hx hb dX6_told_13 (by decide) ?_
  refine lv_iadd hx hb dX6_told_14 ?_
  refine lv_topi (fun v2 ev2 => ?_)
  refine lv_iload_n hx hb dX6_told_15 rfl (lv_at hl 2 rfl) ?_
  refine lv_iadd hx hb dX6_told_16 ?_
  refine lv_topi (fun v3 ev3 => ?_)
  refine r_lald S9 w m2 (by rw [show v3 = nI (h + 1 + i') from by rw [ev3, ev2, ei]; exact (congrArg (· + nI i') (nI_1 h)).trans (nI_add (h + 1) i')]; exact vp_in_nI (by omega) (by decide)) dX6_told_17 ?_
  refine lv_topl (fun v4 ev4 => ?_)
  exact e_l S9 hr hlk (by rw [ev4, cl_nI (show v3 = nI (h + 1 + i') from by rw [ev3, ev2, ei]; exact (congrArg (· + nI i') (nI_1 h)).trans (nI_add (h + 1) i')) (by omega)]; exact (m6.1 h o ho).2.1 hk i' hi') dX6_told_18

set_option maxHeartbeats 4000000 in
set_option maxRecDepth 100000 in
theorem c_mtold_O (l : Launch) {G : Gt} {ws : va_W} (sz : Nat) {x ha at_ li : Nat} {S : St} (hR : RpM G x ha at_ li S ws) (hI : Inv S) {h : Nat} {o : Ob} (ho : s_o S h = some o) (hk : 4 ≤ o_k o) (hm : o_k o ≤ 6) (i : Int32) (i' : Nat) (ei : i = nI i') (hi' : i' < o_n o) : Met l yX6_told wsX6_told ({ frames := 2, cells := 0, slots := 0, locals := 42 } : Room) (Pw G [.ref x, .int (nI h), .int i] ws sz) (vp_Sl (fun r : Int64 => r = told (obj S (o_e o i')))) 0 0 (fun _ => False) := by
  refine Met_pw (cc := cX6_told) (maxL := 4) (ret := (some .long)) (by decide) rfl (Nat.le_of_ble_eq_true rfl) ?_
  intro p e s m below meth c ls hsz S9 hr hlk hnm w hl
  subst hsz
  replace S9 : CallFix p m c cX6_told 4 s _ wsX6_told RX6 := S9
  have hx := S9.1
  have hb := S9.2.1
  have hown := S9.2.2.2.1
  have hts := S9.2.2.2.2
  replace hl : lv_has ls 4 [(0, .ref x), (1, .int (nI h)), (2, .int i)] := hl
  obtain ⟨hf, af, m1, m2, m3, m4, m5, m6⟩ := id hR
  have bh := hI.hd ho
  have m7 := (m6.1 h o ho).1
  have k8 := (hI.ob ho).1
  have n2 := (hI.ob ho).2
  refine lv_aload_n hx hb dX6_told_0 rfl (lv_at hl 0 rfl) ?_
  refine lv_iload_n hx hb dX6_told_1 rfl (lv_at hl 1 rfl) ?_
  refine k_vi S9 w (c_misOfObjects l _ hR hI ho) m1 rfl (cwV 1 hts gX6_told_X6_isOfObjects rfl rfl rfl (by decide +kernel) ⟨Nat.le_of_ble_eq_true rfl, Nat.le_of_ble_eq_true rfl⟩) rfl hl.1 rfl (Nat.le_of_ble_eq_true rfl) dX6_told_2 ⟨Nat.le_of_ble_eq_true rfl, Nat.le_of_ble_eq_true rfl⟩ (fun r1 er1 => ?_)
  rw [if_pos (by omega)] at er1
  subst er1
  refine lv_if_ne (tgt := 19) hx hb dX6_told_5 (by decide) (fun c_5 => ?_) (fun c_5 => absurd c_5 (by decide))
  refine lv_aload_n hx hb dX6_told_19 rfl (lv_at hl 0 rfl) ?_
  refine lv_iload_n hx hb dX6_told_20 rfl (lv_at hl 1 rfl) ?_
  refine lv_iload_n hx hb dX6_told_21 rfl (lv_at hl 2 rfl) ?_
  refine k_vi S9 w (c_mobject l _ hR hI ho hk hm i i' ei hi') m1 rfl (cwV 2 hts gX6_told_X6_object rfl rfl rfl (by decide +kernel) ⟨Nat.le_of_ble_eq_true rfl, Nat.le_of_ble_eq_true rfl⟩) rfl hl.1 rfl (Nat.le_of_ble_eq_true rfl) dX6_told_22 ⟨Nat.le_of_ble_eq_true rfl, Nat.le_of_ble_eq_true rfl⟩ (fun r2 er2 => ?_)
  cases he : o_e o i' with
  | none =>
    rw [he] at er2
    replace er2 : r2 = (-1) := er2
    subst er2
    refine lv_istore_n (lv' := [(3, .int (-1)), (0, .ref x), (1, .int (nI h)), (2, .int i)]) hx hb dX6_told_25 rfl hl (by decide) rfl (fun ls hl => ?_)
    refine lv_iload_n hx hb dX6_told_26 rfl (lv_at hl 0 rfl) ?_
    refine lv_if_ge (tgt := 34) hx hb dX6_told_27 (by decide) (fun c_27 => absurd c_27 (by decide)) (fun c_27 => ?_)
    refine lv_ldc2 (v := (-1)) hx hb hown (hts (.constantLong RX6 87 (-1)) (by decide +kernel)) dX6_told_30 ?_
    exact e_l S9 hr hlk (rfl) dX6_told_33
  | some h4 =>
    rw [he] at er2
    replace er2 : r2 = nI h4 := er2
    subst er2
    obtain ⟨o4, ho4, hf4⟩ := hI.2.2.2.2.2.2 h o ho hk hm i' h4 he
    have b4 := hI.hd ho4
    refine lv_istore_n (lv' := [(3, .int (nI h4)), (0, .ref x), (1, .int (nI h)), (2, .int i)]) hx hb dX6_told_25 rfl hl (by decide) rfl (fun ls hl => ?_)
    refine lv_iload_n hx hb dX6_told_26 rfl (lv_at hl 0 rfl) ?_
    refine lv_if_ge (tgt := 34) hx hb dX6_told_27 (by decide) (fun c_27 => ?_) (fun c_27 => absurd (nI_pos' (by omega)) c_27)
    refine lv_aload_n hx hb dX6_told_34 rfl (lv_at hl 1 rfl) ?_
    refine lv_iload_n hx hb dX6_told_35 rfl (lv_at hl 0 rfl) ?_
    refine k_vi S9 w (c_mkind l _ hR hI ho4) m1 rfl (cwV 1 hts gX6_told_X6_kind rfl rfl rfl (by decide +kernel) ⟨Nat.le_of_ble_eq_true rfl, Nat.le_of_ble_eq_true rfl⟩) rfl hl.1 rfl (Nat.le_of_ble_eq_true rfl) dX6_told_36 ⟨Nat.le_of_ble_eq_true rfl, Nat.le_of_ble_eq_true rfl⟩ (fun r3 er3 => ?_)
    subst er3
    refine lv_if_ne (tgt := 51) hx hb dX6_told_39 (by decide) (fun c_k => ?_) (fun c_k => ?_)
    · have k4 : 7 ≤ o_k o4 := fit7 hk hm hf4 (by rwa [nIe0 (hI.ob ho4).1] at c_k)
      refine lv_aload_n hx hb dX6_told_51 rfl (lv_at hl 1 rfl) ?_
      refine r_get (ref := "SpanMoverModel") S9 w m1 rfl (by decide +kernel) 0 (by decide) (by decide +kernel) (Or.inl rfl) rfl dX6_told_52 ?_
      refine lv_iload_n hx hb dX6_told_55 rfl (lv_at hl 0 rfl) ?_
      refine r_lald S9 w m2 (vp_in_nI b4 (by decide)) dX6_told_56 ?_
      refine lv_topl (fun v4 ev4 => ?_)
      exact e_l S9 hr hlk (by rw [show obj S (some h4) = some o4 from ho4, ev4, nI_clamp (by omega), (m6.1 h4 o4 ho4).1]; simp only [told]; rw [if_pos k4]; unfold hdO; rw [loV_thg k4]; exact hd_told (hI.ob ho4).1 _) dX6_told_57
    · have k4 : o_k o4 = 0 := by rwa [nIe0 (hI.ob ho4).1] at c_k
      refine lv_aload_n hx hb dX6_told_42 rfl (lv_at hl 1 rfl) ?_
      refine lv_iload_n hx hb dX6_told_43 rfl (lv_at hl 0 rfl) ?_
      refine k_vi S9 w (c_mlow l _ hR hI ho4) m1 rfl (cwV 1 hts gX6_told_X6_low rfl rfl rfl (by decide +kernel) ⟨Nat.le_of_ble_eq_true rfl, Nat.le_of_ble_eq_true rfl⟩) rfl hl.1 rfl (Nat.le_of_ble_eq_true rfl) dX6_told_44 ⟨Nat.le_of_ble_eq_true rfl, Nat.le_of_ble_eq_true rfl⟩ (fun r5 er5 => ?_)
      rw [loV_row (by omega)] at er5
      subst er5
      obtain ⟨v6, ev6⟩ : ∃ z : Int64, Int32.toInt64 (nI (o_n o4)) = z := ⟨_, rfl⟩
      refine lv_i2l (v := v6) hx hb dX6_told_47 ev6 ?_
      refine lv_goto (tgt := 57) hx hb dX6_told_48 (by decide) ?_
      exact e_l S9 hr hlk (by rw [show obj S (some h4) = some o4 from ho4]; simp only [told]; rw [if_neg (by omega)]; exact ev6.symm) dX6_told_57

set_option maxHeartbeats 4000000 in
set_option maxRecDepth 100000 in
theorem c_mrefusal_N (l : Launch) {G : Gt} {ws : va_W} (sz : Nat) {x : Nat} (i : Int32) : Met l yX6_refusal wsX6_refusal ({ frames := 2, cells := 0, slots := 0, locals := 43 } : Room) (Pw G [.ref x, .int (-1), .int i] ws sz) (vp_Si (fun r : Int32 => r = 1)) 0 0 (fun _ => False) := by
  refine Met_pw (cc := cX6_refusal) (maxL := 3) (ret := (some .int)) (by decide) rfl (Nat.le_of_ble_eq_true rfl) ?_
  intro p e s m below meth c ls hsz S9 hr hlk hnm w hl
  subst hsz
  replace S9 : CallFix p m c cX6_refusal 3 s _ wsX6_refusal RX6 := S9
  have hx := S9.1
  have hb := S9.2.1
  have hown := S9.2.2.2.1
  have hts := S9.2.2.2.2
  replace hl : lv_has ls 3 [(0, .ref x), (1, .int (-1)), (2, .int i)] := hl
  refine lv_iload_n hx hb dX6_refusal_0 rfl (lv_at hl 1 rfl) ?_
  refine lv_if_ge (tgt := 8) hx hb dX6_refusal_1 (by decide) (fun c_1 => absurd c_1 (by decide)) (fun c_1 => ?_)
  refine lv_iconst (v := 1) hx hb dX6_refusal_4 (by decide) ?_
  refine lv_goto (tgt := 34) hx hb dX6_refusal_5 (by decide) ?_
  exact e_i S9 hr hlk (rfl) dX6_refusal_34

set_option maxHeartbeats 4000000 in
set_option maxRecDepth 100000 in
theorem c_mrefusal_R (l : Launch) {G : Gt} {ws : va_W} (sz : Nat) {x ha at_ li : Nat} {S : St} (hR : RpM G x ha at_ li S ws) (hI : Inv S) {h : Nat} {o : Ob} (ho : s_o S h = some o) (hk : o_k o ≤ 6) (i : Int32) : Met l yX6_refusal wsX6_refusal ({ frames := 2, cells := 0, slots := 0, locals := 43 } : Room) (Pw G [.ref x, .int (nI h), .int i] ws sz) (vp_Si (fun r : Int32 => r = if inE (o_n o) i then 0 else 4)) 0 0 (fun _ => False) := by
  refine Met_pw (cc := cX6_refusal) (maxL := 3) (ret := (some .int)) (by decide) rfl (Nat.le_of_ble_eq_true rfl) ?_
  intro p e s m below meth c ls hsz S9 hr hlk hnm w hl
  subst hsz
  replace S9 : CallFix p m c cX6_refusal 3 s _ wsX6_refusal RX6 := S9
  have hx := S9.1
  have hb := S9.2.1
  have hown := S9.2.2.2.1
  have hts := S9.2.2.2.2
  replace hl : lv_has ls 3 [(0, .ref x), (1, .int (nI h)), (2, .int i)] := hl
  obtain ⟨hf, af, hR1, -⟩ := id hR
  refine lv_iload_n hx hb dX6_refusal_0 rfl (lv_at hl 1 rfl) ?_
  refine lv_if_ge (tgt := 8) hx hb dX6_refusal_1 (by decide) (fun c_1 => ?_) (fun c_1 => absurd (nI_pos' (by have := hI.hd ho; omega)) c_1)
  refine lv_aload_n hx hb dX6_refusal_8 rfl (lv_at hl 0 rfl) ?_
  refine lv_iload_n hx hb dX6_refusal_9 rfl (lv_at hl 1 rfl) ?_
  refine k_vi S9 w (c_misThing l _ hR hI ho) hR1 rfl (cwV 1 hts gX6_refusal_X6_isThing rfl rfl rfl (by decide +kernel) ⟨Nat.le_of_ble_eq_true rfl, Nat.le_of_ble_eq_true rfl⟩) rfl hl.1 rfl (Nat.le_of_ble_eq_true rfl) dX6_refusal_10 ⟨Nat.le_of_ble_eq_true rfl, Nat.le_of_ble_eq_true rfl⟩ (fun r1 er1 => ?_)
  rw [if_neg (by omega)] at er1
  subst er1
  refine lv_if_eq (tgt := 20) hx hb dX6_refusal_13 (by decide) (fun c_13 => ?_) (fun c_13 => absurd c_13 (by decide))
  refine lv_aload_n hx hb dX6_refusal_20 rfl (lv_at hl 0 rfl) ?_
  refine lv_iload_n hx hb dX6_refusal_21 rfl (lv_at hl 1 rfl) ?_
  refine lv_iload_n hx hb dX6_refusal_22 rfl (lv_at hl 2 rfl) ?_
  refine k_vi S9 w (c_misElement l _ hR hI ho (by omega) i) hR1 rfl (cwV 2 hts gX6_refusal_X6_isElement rfl rfl rfl (by decide +kernel) ⟨Nat.le_of_ble_eq_true rfl, Nat.le_of_ble_eq_true rfl⟩) rfl hl.1 rfl (Nat.le_of_ble_eq_true rfl) dX6_refusal_23 ⟨Nat.le_of_ble_eq_true rfl, Nat.le_of_ble_eq_true rfl⟩ (fun r2 er2 => ?_)
  rcases Decidable.em (inE (o_n o) i) with hE | hE
  · rw [if_pos hE] at er2
    subst er2
    refine lv_if_ne (tgt := 33) hx hb dX6_refusal_26 (by decide) (fun c_26 => ?_) (fun c_26 => absurd c_26 (by decide))
    refine lv_iconst (v := 0) hx hb dX6_refusal_33 (by decide) ?_
    exact e_i S9 hr hlk (by rw [if_pos hE]) dX6_refusal_34
  · rw [if_neg hE] at er2
    subst er2
    refine lv_if_ne (tgt := 33) hx hb dX6_refusal_26 (by decide) (fun c_26 => absurd c_26 (by decide)) (fun c_26 => ?_)
    refine lv_iconst (v := 4) hx hb dX6_refusal_29 (by decide) ?_
    refine lv_goto (tgt := 34) hx hb dX6_refusal_30 (by decide) ?_
    exact e_i S9 hr hlk (by rw [if_neg hE]) dX6_refusal_34

set_option maxHeartbeats 4000000 in
set_option maxRecDepth 100000 in
theorem c_mrefusal_T (l : Launch) {G : Gt} {ws : va_W} (sz : Nat) {x ha at_ li : Nat} {S : St} (hR : RpM G x ha at_ li S ws) (hI : Inv S) {h : Nat} {o : Ob} (ho : s_o S h = some o) (hk : 7 ≤ o_k o) (i : Int32) : Met l yX6_refusal wsX6_refusal ({ frames := 2, cells := 0, slots := 0, locals := 43 } : Room) (Pw G [.ref x, .int (nI h), .int i] ws sz) (vp_Si (fun r : Int32 => r = 2)) 0 0 (fun _ => False) := by
  refine Met_pw (cc := cX6_refusal) (maxL := 3) (ret := (some .int)) (by decide) rfl (Nat.le_of_ble_eq_true rfl) ?_
  intro p e s m below meth c ls hsz S9 hr hlk hnm w hl
  subst hsz
  replace S9 : CallFix p m c cX6_refusal 3 s _ wsX6_refusal RX6 := S9
  have hx := S9.1
  have hb := S9.2.1
  have hown := S9.2.2.2.1
  have hts := S9.2.2.2.2
  replace hl : lv_has ls 3 [(0, .ref x), (1, .int (nI h)), (2, .int i)] := hl
  obtain ⟨hf, af, hR1, -⟩ := id hR
  refine lv_iload_n hx hb dX6_refusal_0 rfl (lv_at hl 1 rfl) ?_
  refine lv_if_ge (tgt := 8) hx hb dX6_refusal_1 (by decide) (fun c_1 => ?_) (fun c_1 => absurd (nI_pos' (by have := hI.hd ho; omega)) c_1)
  refine lv_aload_n hx hb dX6_refusal_8 rfl (lv_at hl 0 rfl) ?_
  refine lv_iload_n hx hb dX6_refusal_9 rfl (lv_at hl 1 rfl) ?_
  refine k_vi S9 w (c_misThing l _ hR hI ho) hR1 rfl (cwV 1 hts gX6_refusal_X6_isThing rfl rfl rfl (by decide +kernel) ⟨Nat.le_of_ble_eq_true rfl, Nat.le_of_ble_eq_true rfl⟩) rfl hl.1 rfl (Nat.le_of_ble_eq_true rfl) dX6_refusal_10 ⟨Nat.le_of_ble_eq_true rfl, Nat.le_of_ble_eq_true rfl⟩ (fun r1 er1 => ?_)
  rw [if_pos (by omega)] at er1
  subst er1
  refine lv_if_eq (tgt := 20) hx hb dX6_refusal_13 (by decide) (fun c_13 => absurd c_13 (by decide)) (fun c_13 => ?_)
  refine lv_iconst (v := 2) hx hb dX6_refusal_16 (by decide) ?_
  refine lv_goto (tgt := 34) hx hb dX6_refusal_17 (by decide) ?_
  exact e_i S9 hr hlk (rfl) dX6_refusal_34

set_option maxHeartbeats 4000000 in
set_option maxRecDepth 100000 in
theorem c_mget (l : Launch) {G : Gt} {ws : va_W} (sz : Nat) {x ha at_ li : Nat} {S : St} (hR : RpM G x ha at_ li S ws) (hI : Inv S) (pl i : Int32) : Met l yX6_get wsX6_get ({ frames := 3, cells := 0, slots := 0, locals := 65 } : Room) (Pw G [.ref x, .int pl, .int i] ws sz) (va_Ql (fun (r : Int64) (u : va_W) => r = (sp_get S pl i).1 ∧ RpM G x ha at_ li (sp_get S pl i).2 u) (Bw G ws sz) (va_A ws sz)) 0 0 (va_A ws sz) := by
  refine Met_pw (cc := cX6_get) (maxL := 4) (ret := (some .long)) (by decide) rfl (Nat.le_of_ble_eq_true rfl) ?_
  intro p e s m below meth c ls hsz S9 hr hlk hnm w hl
  subst hsz
  replace S9 : CallFix p m c cX6_get 4 s _ wsX6_get RX6 := S9
  have hx := S9.1
  have hb := S9.2.1
  have hown := S9.2.2.2.1
  have hts := S9.2.2.2.2
  replace hl : lv_has ls 4 [(0, .ref x), (1, .int pl), (2, .int i)] := hl
  obtain ⟨hf, af, m1, m2, m3, m4, m5, m6⟩ := id hR
  refine lv_aload_n hx hb dX6_get_0 rfl (lv_at hl 0 rfl) ?_
  refine lv_iload_n hx hb dX6_get_1 rfl (lv_at hl 1 rfl) ?_
  refine kx_in S9 w hR hI gX6_get_X6_in hl.1 (Nat.le_of_ble_eq_true rfl) dX6_get_2 ⟨Nat.le_of_ble_eq_true rfl, Nat.le_of_ble_eq_true rfl⟩ ⟨Nat.le_of_ble_eq_true rfl, Nat.le_of_ble_eq_true rfl⟩ (fun i_2 => ?_) (fun h o i_2 ho => ?_)
  · refine lv_istore_n (lv' := [(3, .int (-1)), (0, .ref x), (1, .int pl), (2, .int i)]) hx hb dX6_get_5 rfl hl (by decide) rfl (fun ls hl => ?_)
    refine lv_aload_n hx hb dX6_get_6 rfl (lv_at hl 1 rfl) ?_
    refine lv_aload_n hx hb dX6_get_7 rfl (lv_at hl 1 rfl) ?_
    refine lv_iload_n hx hb dX6_get_8 rfl (lv_at hl 0 rfl) ?_
    refine lv_iload_n hx hb dX6_get_9 rfl (lv_at hl 3 rfl) ?_
    refine k_vi S9 w (c_mrefusal_N l _ i) m1 rfl (cwV 2 hts gX6_get_X6_refusal rfl rfl rfl (by decide +kernel) ⟨Nat.le_of_ble_eq_true rfl, Nat.le_of_ble_eq_true rfl⟩) rfl hl.1 rfl (Nat.le_of_ble_eq_true rfl) dX6_get_10 ⟨Nat.le_of_ble_eq_true rfl, Nat.le_of_ble_eq_true rfl⟩ (fun r1 er1 => ?_)
    subst er1
    refine r_put (ref := "SpanMoverModel") S9 w m1 rfl (by decide +kernel) tyX6_ok nmX6 5 (by decide) (by decide +kernel) (Or.inl rfl) rfl rfl rfl (Nat.le_of_ble_eq_true rfl) dX6_get_13 (fun wsa1 Ha1 lca1 ua1 wa1 => ?_)
    have hRa1 := RpM.sc (f := upd (s_c S) 2 1) w.2.1 hR m1 ua1 rfl
    replace hRa1 : RpM G x ha at_ li (s_u S, s_o S, s_s S, s_l S, upd (s_c S) 2 1) wsa1 := hRa1
    obtain ⟨hfa1, afa1, m1a1, m2a1, m3a1, m4a1, m5a1, m6a1⟩ := id hRa1
    have xa1 : hp wsa1 x (.inr (4, [.ref ha, .int (nI (s_u S)), .ref at_, .ref li, .int (s_c S 0), .int (1 : Int32), .int (s_c S 4), .int (s_c S 3), .int (s_c S 5), .int (s_c S 6)])) := m1a1
    refine lv_aload_n hx hb dX6_get_16 rfl (lv_at hl 1 rfl) ?_
    refine r_get (ref := "SpanMoverModel") S9 wa1 xa1 rfl (by decide +kernel) 5 (by decide) (by decide +kernel) (Or.inl rfl) rfl dX6_get_17 ?_
    refine lv_if_le (tgt := 27) hx hb dX6_get_20 (by decide) (fun c_20 => absurd c_20 (by decide)) (fun c_20 => ?_)
    refine lv_lconst (v := 0) hx hb dX6_get_23 (by decide) ?_
    refine lv_goto (tgt := 33) hx hb dX6_get_24 (by decide) ?_
    exact ew_l S9 hr hlk wa1 (by rw [show sp_get S pl i = (0, s_sc S (upd (s_c S) 2 1)) from by simp [sp_get, obj_none i_2, ref1]]; exact ⟨rfl, hRa1⟩) dX6_get_33 (by decide) (by decide)
  · rcases (show o_k o ≤ 3 ∨ (4 ≤ o_k o ∧ o_k o ≤ 6) ∨ 7 ≤ o_k o by omega) with hk | ⟨hk, hm⟩ | hk
    · refine lv_istore_n (lv' := [(3, .int (nI h)), (0, .ref x), (1, .int pl), (2, .int i)]) hx hb dX6_get_5 rfl hl (by decide) rfl (fun ls hl => ?_)
      refine lv_aload_n hx hb dX6_get_6 rfl (lv_at hl 1 rfl) ?_
      refine lv_aload_n hx hb dX6_get_7 rfl (lv_at hl 1 rfl) ?_
      refine lv_iload_n hx hb dX6_get_8 rfl (lv_at hl 0 rfl) ?_
      refine lv_iload_n hx hb dX6_get_9 rfl (lv_at hl 3 rfl) ?_
      refine k_vi S9 w (c_mrefusal_R l _ hR hI ho (by omega) i) m1 rfl (cwV 2 hts gX6_get_X6_refusal rfl rfl rfl (by decide +kernel) ⟨Nat.le_of_ble_eq_true rfl, Nat.le_of_ble_eq_true rfl⟩) rfl hl.1 rfl (Nat.le_of_ble_eq_true rfl) dX6_get_10 ⟨Nat.le_of_ble_eq_true rfl, Nat.le_of_ble_eq_true rfl⟩ (fun r2 er2 => ?_)
      rcases Decidable.em (inE (o_n o) i) with hE | hE
      · rw [if_pos hE] at er2
        subst er2
        refine r_put (ref := "SpanMoverModel") S9 w m1 rfl (by decide +kernel) tyX6_ok nmX6 5 (by decide) (by decide +kernel) (Or.inl rfl) rfl rfl rfl (Nat.le_of_ble_eq_true rfl) dX6_get_13 (fun wsa1 Ha1 lca1 ua1 wa1 => ?_)
        have hRa1 := RpM.sc (f := upd (s_c S) 2 0) w.2.1 hR m1 ua1 rfl
        replace hRa1 : RpM G x ha at_ li (s_u S, s_o S, s_s S, s_l S, upd (s_c S) 2 0) wsa1 := hRa1
        obtain ⟨hfa1, afa1, m1a1, m2a1, m3a1, m4a1, m5a1, m6a1⟩ := id hRa1
        have xa1 : hp wsa1 x (.inr (4, [.ref ha, .int (nI (s_u S)), .ref at_, .ref li, .int (s_c S 0), .int (0 : Int32), .int (s_c S 4), .int (s_c S 3), .int (s_c S 5), .int (s_c S 6)])) := m1a1
        refine lv_aload_n hx hb dX6_get_16 rfl (lv_at hl 1 rfl) ?_
        refine r_get (ref := "SpanMoverModel") S9 wa1 xa1 rfl (by decide +kernel) 5 (by decide) (by decide +kernel) (Or.inl rfl) rfl dX6_get_17 ?_
        refine lv_if_le (tgt := 27) hx hb dX6_get_20 (by decide) (fun c_20 => ?_) (fun c_20 => absurd c_20 (by decide))
        refine lv_aload_n hx hb dX6_get_27 rfl (lv_at hl 1 rfl) ?_
        refine lv_iload_n hx hb dX6_get_28 rfl (lv_at hl 0 rfl) ?_
        refine lv_iload_n hx hb dX6_get_29 rfl (lv_at hl 3 rfl) ?_
        obtain ⟨i', hi', ei⟩ := vp_in_of (inE_in hE (by have := (hI.ob ho).2; omega)) (by have := (hI.ob ho).2; omega)
        have yi : i.toNatClampNeg = i' := cl_nI ei (by have := (hI.ob ho).2; omega)
        refine k_vl S9 wa1 (c_mtold_N l _ hRa1 (Inv.sc hI (upd (s_c S) 2 0) rfl rfl) ho hk i i' ei hi') xa1 rfl (cwV 2 hts gX6_get_X6_told rfl rfl rfl (by decide +kernel) ⟨Nat.le_of_ble_eq_true rfl, Nat.le_of_ble_eq_true rfl⟩) rfl hl.1 rfl (Nat.le_of_ble_eq_true rfl) dX6_get_30 ⟨Nat.le_of_ble_eq_true rfl, Nat.le_of_ble_eq_true rfl⟩ (fun v10 e10 => ?_)
        exact ew_l S9 hr hlk wa1 (by rw [show sp_get S pl i = (v10, s_sc S (upd (s_c S) 2 0)) from by have er : ref1 (some o) i 0 6 = 0 := (by rw [ref1_row (by omega), if_neg (show ¬ nI (o_k o) < 0 from nI_pos (by omega)), if_pos (show nI (o_k o) ≤ 6 from (nI_leI (b := 6) (by omega) (by decide)).mpr (by omega)), if_pos hE]); rw [e10, ← yi]; simp [sp_get, obj_some i_2 ho, er, hk]]; exact ⟨rfl, hRa1⟩) dX6_get_33 (by decide) (by decide)
      · rw [if_neg hE] at er2
        subst er2
        refine r_put (ref := "SpanMoverModel") S9 w m1 rfl (by decide +kernel) tyX6_ok nmX6 5 (by decide) (by decide +kernel) (Or.inl rfl) rfl rfl rfl (Nat.le_of_ble_eq_true rfl) dX6_get_13 (fun wsa1 Ha1 lca1 ua1 wa1 => ?_)
        have hRa1 := RpM.sc (f := upd (s_c S) 2 4) w.2.1 hR m1 ua1 rfl
        replace hRa1 : RpM G x ha at_ li (s_u S, s_o S, s_s S, s_l S, upd (s_c S) 2 4) wsa1 := hRa1
        obtain ⟨hfa1, afa1, m1a1, m2a1, m3a1, m4a1, m5a1, m6a1⟩ := id hRa1
        have xa1 : hp wsa1 x (.inr (4, [.ref ha, .int (nI (s_u S)), .ref at_, .ref li, .int (s_c S 0), .int (4 : Int32), .int (s_c S 4), .int (s_c S 3), .int (s_c S 5), .int (s_c S 6)])) := m1a1
        refine lv_aload_n hx hb dX6_get_16 rfl (lv_at hl 1 rfl) ?_
        refine r_get (ref := "SpanMoverModel") S9 wa1 xa1 rfl (by decide +kernel) 5 (by decide) (by decide +kernel) (Or.inl rfl) rfl dX6_get_17 ?_
        refine lv_if_le (tgt := 27) hx hb dX6_get_20 (by decide) (fun c_20 => absurd c_20 (by decide)) (fun c_20 => ?_)
        refine lv_lconst (v := 0) hx hb dX6_get_23 (by decide) ?_
        refine lv_goto (tgt := 33) hx hb dX6_get_24 (by decide) ?_
        exact ew_l S9 hr hlk wa1 (by rw [show sp_get S pl i = (0, s_sc S (upd (s_c S) 2 4)) from by have er : ref1 (some o) i 0 6 = 4 := (by rw [ref1_row (by omega), if_neg (show ¬ nI (o_k o) < 0 from nI_pos (by omega)), if_pos (show nI (o_k o) ≤ 6 from (nI_leI (b := 6) (by omega) (by decide)).mpr (by omega)), if_neg hE]); simp [sp_get, obj_some i_2 ho, er]]; exact ⟨rfl, hRa1⟩) dX6_get_33 (by decide) (by decide)
    · refine lv_istore_n (lv' := [(3, .int (nI h)), (0, .ref x), (1, .int pl), (2, .int i)]) hx hb dX6_get_5 rfl hl (by decide) rfl (fun ls hl => ?_)
      refine lv_aload_n hx hb dX6_get_6 rfl (lv_at hl 1 rfl) ?_
      refine lv_aload_n hx hb dX6_get_7 rfl (lv_at hl 1 rfl) ?_
      refine lv_iload_n hx hb dX6_get_8 rfl (lv_at hl 0 rfl) ?_
      refine lv_iload_n hx hb dX6_get_9 rfl (lv_at hl 3 rfl) ?_
      refine k_vi S9 w (c_mrefusal_R l _ hR hI ho (by omega) i) m1 rfl (cwV 2 hts gX6_get_X6_refusal rfl rfl rfl (by decide +kernel) ⟨Nat.le_of_ble_eq_true rfl, Nat.le_of_ble_eq_true rfl⟩) rfl hl.1 rfl (Nat.le_of_ble_eq_true rfl) dX6_get_10 ⟨Nat.le_of_ble_eq_true rfl, Nat.le_of_ble_eq_true rfl⟩ (fun r3 er3 => ?_)
      rcases Decidable.em (inE (o_n o) i) with hE | hE
      · rw [if_pos hE] at er3
        subst er3
        refine r_put (ref := "SpanMoverModel") S9 w m1 rfl (by decide +kernel) tyX6_ok nmX6 5 (by decide) (by decide +kernel) (Or.inl rfl) rfl rfl rfl (Nat.le_of_ble_eq_true rfl) dX6_get_13 (fun wsa1 Ha1 lca1 ua1 wa1 => ?_)
        have hRa1 := RpM.sc (f := upd (s_c S) 2 0) w.2.1 hR m1 ua1 rfl
        replace hRa1 : RpM G x ha at_ li (s_u S, s_o S, s_s S, s_l S, upd (s_c S) 2 0) wsa1 := hRa1
        obtain ⟨hfa1, afa1, m1a1, m2a1, m3a1, m4a1, m5a1, m6a1⟩ := id hRa1
        have xa1 : hp wsa1 x (.inr (4, [.ref ha, .int (nI (s_u S)), .ref at_, .ref li, .int (s_c S 0), .int (0 : Int32), .int (s_c S 4), .int (s_c S 3), .int (s_c S 5), .int (s_c S 6)])) := m1a1
        refine lv_aload_n hx hb dX6_get_16 rfl (lv_at hl 1 rfl) ?_
        refine r_get (ref := "SpanMoverModel") S9 wa1 xa1 rfl (by decide +kernel) 5 (by decide) (by decide +kernel) (Or.inl rfl) rfl dX6_get_17 ?_
        refine lv_if_le (tgt := 27) hx hb dX6_get_20 (by decide) (fun c_20 => ?_) (fun c_20 => absurd c_20 (by decide))
        refine lv_aload_n hx hb dX6_get_27 rfl (lv_at hl 1 rfl) ?_
        refine lv_iload_n hx hb dX6_get_28 rfl (lv_at hl 0 rfl) ?_
        refine lv_iload_n hx hb dX6_get_29 rfl (lv_at hl 3 rfl) ?_
        obtain ⟨i', hi', ei⟩ := vp_in_of (inE_in hE (by have := (hI.ob ho).2; omega)) (by have := (hI.ob ho).2; omega)
        have yi : i.toNatClampNeg = i' := cl_nI ei (by have := (hI.ob ho).2; omega)
        refine k_vl S9 wa1 (c_mtold_O l _ hRa1 (Inv.sc hI (upd (s_c S) 2 0) rfl rfl) ho hk hm i i' ei hi') xa1 rfl (cwV 2 hts gX6_get_X6_told rfl rfl rfl (by decide +kernel) ⟨Nat.le_of_ble_eq_true rfl, Nat.le_of_ble_eq_true rfl⟩) rfl hl.1 rfl (Nat.le_of_ble_eq_true rfl) dX6_get_30 ⟨Nat.le_of_ble_eq_true rfl, Nat.le_of_ble_eq_true rfl⟩ (fun v10 e10 => ?_)
        exact ew_l S9 hr hlk wa1 (by rw [show sp_get S pl i = (v10, s_sc S (upd (s_c S) 2 0)) from by have er : ref1 (some o) i 0 6 = 0 := (by rw [ref1_row (by omega), if_neg (show ¬ nI (o_k o) < 0 from nI_pos (by omega)), if_pos (show nI (o_k o) ≤ 6 from (nI_leI (b := 6) (by omega) (by decide)).mpr (by omega)), if_pos hE]); have e10 : v10 = told (obj S (o_e o i')) := e10; rw [e10, ← yi]; simp [sp_get, obj_some i_2 ho, er, show ¬ o_k o ≤ 3 by omega]]; exact ⟨rfl, hRa1⟩) dX6_get_33 (by decide) (by decide)
      · rw [if_neg hE] at er3
        subst er3
        refine r_put (ref := "SpanMoverModel") S9 w m1 rfl (by decide +kernel) tyX6_ok nmX6 5 (by decide) (by decide +kernel) (Or.inl rfl) rfl rfl rfl (Nat.le_of_ble_eq_true rfl) dX6_get_13 (fun wsa1 Ha1 lca1 ua1 wa1 => ?_)
        have hRa1 := RpM.sc (f := upd (s_c S) 2 4) w.2.1 hR m1 ua1 rfl
        replace hRa1 : RpM G x ha at_ li (s_u S, s_o S, s_s S, s_l S, upd (s_c S) 2 4) wsa1 := hRa1
        obtain ⟨hfa1, afa1, m1a1, m2a1, m3a1, m4a1, m5a1, m6a1⟩ := id hRa1
        have xa1 : hp wsa1 x (.inr (4, [.ref ha, .int (nI (s_u S)), .ref at_, .ref li, .int (s_c S 0), .int (4 : Int32), .int (s_c S 4), .int (s_c S 3), .int (s_c S 5), .int (s_c S 6)])) := m1a1
        refine lv_aload_n hx hb dX6_get_16 rfl (lv_at hl 1 rfl) ?_
        refine r_get (ref := "SpanMoverModel") S9 wa1 xa1 rfl (by decide +kernel) 5 (by decide) (by decide +kernel) (Or.inl rfl) rfl dX6_get_17 ?_
        refine lv_if_le (tgt := 27) hx hb dX6_get_20 (by decide) (fun c_20 => absurd c_20 (by decide)) (fun c_20 => ?_)
        refine lv_lconst (v := 0) hx hb dX6_get_23 (by decide) ?_
        refine lv_goto (tgt := 33) hx hb dX6_get_24 (by decide) ?_
        exact ew_l S9 hr hlk wa1 (by rw [show sp_get S pl i = (0, s_sc S (upd (s_c S) 2 4)) from by have er : ref1 (some o) i 0 6 = 4 := (by rw [ref1_row (by omega), if_neg (show ¬ nI (o_k o) < 0 from nI_pos (by omega)), if_pos (show nI (o_k o) ≤ 6 from (nI_leI (b := 6) (by omega) (by decide)).mpr (by omega)), if_neg hE]); simp [sp_get, obj_some i_2 ho, er]]; exact ⟨rfl, hRa1⟩) dX6_get_33 (by decide) (by decide)
    · refine lv_istore_n (lv' := [(3, .int (nI h)), (0, .ref x), (1, .int pl), (2, .int i)]) hx hb dX6_get_5 rfl hl (by decide) rfl (fun ls hl => ?_)
      refine lv_aload_n hx hb dX6_get_6 rfl (lv_at hl 1 rfl) ?_
      refine lv_aload_n hx hb dX6_get_7 rfl (lv_at hl 1 rfl) ?_
      refine lv_iload_n hx hb dX6_get_8 rfl (lv_at hl 0 rfl) ?_
      refine lv_iload_n hx hb dX6_get_9 rfl (lv_at hl 3 rfl) ?_
      refine k_vi S9 w (c_mrefusal_T l _ hR hI ho hk i) m1 rfl (cwV 2 hts gX6_get_X6_refusal rfl rfl rfl (by decide +kernel) ⟨Nat.le_of_ble_eq_true rfl, Nat.le_of_ble_eq_true rfl⟩) rfl hl.1 rfl (Nat.le_of_ble_eq_true rfl) dX6_get_10 ⟨Nat.le_of_ble_eq_true rfl, Nat.le_of_ble_eq_true rfl⟩ (fun r4 er4 => ?_)
      subst er4
      refine r_put (ref := "SpanMoverModel") S9 w m1 rfl (by decide +kernel) tyX6_ok nmX6 5 (by decide) (by decide +kernel) (Or.inl rfl) rfl rfl rfl (Nat.le_of_ble_eq_true rfl) dX6_get_13 (fun wsa1 Ha1 lca1 ua1 wa1 => ?_)
      have hRa1 := RpM.sc (f := upd (s_c S) 2 2) w.2.1 hR m1 ua1 rfl
      replace hRa1 : RpM G x ha at_ li (s_u S, s_o S, s_s S, s_l S, upd (s_c S) 2 2) wsa1 := hRa1
      obtain ⟨hfa1, afa1, m1a1, m2a1, m3a1, m4a1, m5a1, m6a1⟩ := id hRa1
      have xa1 : hp wsa1 x (.inr (4, [.ref ha, .int (nI (s_u S)), .ref at_, .ref li, .int (s_c S 0), .int (2 : Int32), .int (s_c S 4), .int (s_c S 3), .int (s_c S 5), .int (s_c S 6)])) := m1a1
      refine lv_aload_n hx hb dX6_get_16 rfl (lv_at hl 1 rfl) ?_
      refine r_get (ref := "SpanMoverModel") S9 wa1 xa1 rfl (by decide +kernel) 5 (by decide) (by decide +kernel) (Or.inl rfl) rfl dX6_get_17 ?_
      refine lv_if_le (tgt := 27) hx hb dX6_get_20 (by decide) (fun c_20 => absurd c_20 (by decide)) (fun c_20 => ?_)
      refine lv_lconst (v := 0) hx hb dX6_get_23 (by decide) ?_
      refine lv_goto (tgt := 33) hx hb dX6_get_24 (by decide) ?_
      exact ew_l S9 hr hlk wa1 (by rw [show sp_get S pl i = (0, s_sc S (upd (s_c S) 2 2)) from by simp [sp_get, obj_some i_2 ho, ref1_thg hk]]; exact ⟨rfl, hRa1⟩) dX6_get_33 (by decide) (by decide)
end
