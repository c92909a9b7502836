/-! two worlds side by side: the class's and the reference's -/
def dsj (a b : va_W) : Prop := ∀ (q : Nat) (e e2 : va_E), hp a q e → hp b q e2 → False
theorem dsj.symm {a b : va_W} (h : dsj a b) : dsj b a := fun q e e2 h1 h2 => h q e2 e h2 h1
theorem Wd.other {G : Gt} {A : Nat → Prop} {s t : State} {ws ws2 u : va_W} {H H1 : Heap} {locs locs1 : List Loc} (w : Wd G A s ws H locs) (w2 : Wd G A s ws2 H locs) (hd : dsj ws ws2) (hB : Bw G ws H.size u t) (ht : t.heap = H1) (hk : ∀ q : Nat, q < H.size → ¬ va_A ws H.size q → H1[q]? = H[q]?) (hS : va_S A s.heap H1 locs1) : Wd G A s ws2 H1 locs1 ∧ dsj u ws2 := by
  obtain ⟨hP, hD, hS0, hK, hA, hT⟩ := w2
  have far : ∀ (k : Nat) (q : Nat × va_E), ws2[k]? = some q → q.1 < H.size ∧ ¬ va_A ws H.size q.1 := fun k q hq => by
    have hl := (hP k q hq).lt
    refine ⟨hl, fun h => ?_⟩
    rcases h with ⟨j, e, hj⟩ | h
    · exact hd q.1 e q.2 ⟨j, hj⟩ ⟨k, hq⟩
    · omega
  refine ⟨⟨fun k q hq => (hP k q hq).kept (hk q.1 (far k q hq).1 (far k q hq).2), hD, hS, hK, hA, hT⟩, fun q e e2 h1 h2 => ?_⟩
  obtain ⟨k1, h1⟩ := h1
  obtain ⟨k2, h2⟩ := h2
  exact (far k2 (q, e2) h2).2 (hB.2.2 k1 (q, e) h1)
theorem Wd.split {G : Gt} {A : Nat → Prop} {s : State} {ws ws' : va_W} {H H1 : Heap} {locs locs1 : List Loc} {q : Nat} {e : va_E} (w : Wd G A s ws H locs) (w' : Wd G A s ws' H1 locs1) (hW : hu ws q e ws') (fr : ∀ e, ¬ hp ws q e) : Wd G A s ws H1 locs1 ∧ Wd G A s [(q, e)] H1 locs1 ∧ dsj ws [(q, e)] := by
  obtain ⟨hP, hD, hS, hK, hA, hT⟩ := w'
  have one : ∀ (k : Nat) (z : Nat × va_E), ([(q, e)] : va_W)[k]? = some z → k = 0 ∧ z = (q, e) := fun k z hz => by
    have hl : k < 1 := (List.getElem?_eq_some_iff.mp hz).1
    have : k = 0 := by omega
    subst this
    cases hz
    exact ⟨rfl, rfl⟩
  obtain ⟨k0, hk0⟩ := hW.1
  refine ⟨⟨fun k z hz => ?_, w.2.1, hS, hK, hA, hT⟩, ⟨fun k z hz => ?_, ⟨fun i j y z hy hz _ => ?_, fun k z hz => ?_⟩, hS, hK, hA, hT⟩, fun a e1 e2 h1 h2 => ?_⟩
  · have hne : z.1 ≠ q := fun h => fr z.2 ⟨k, by rw [← h]; exact hz⟩
    obtain ⟨j, hj⟩ := (hW.2 z.1 z.2 hne).mpr ⟨k, hz⟩
    exact hP j _ hj
  · obtain ⟨-, rfl⟩ := one k z hz
    exact hP k0 _ hk0
  · rw [(one i y hy).1, (one j z hz).1]
  · obtain ⟨-, rfl⟩ := one k z hz
    exact hD.2 k0 _ hk0
  · obtain ⟨k2, h2⟩ := h2
    have := (one k2 _ h2).2
    cases this
    exact fr e1 h1
section LAWC
variable {p : Program} {l : Launch} {e : Env} {R : Room} {s : State} {m : MethodId} {args : Array Value} {below : List Frame} {meth : Method} {c : Code} {H : Heap} {locs : List Loc} {cells slots : Nat} {Q : State → Prop}
variable {cc : ByteArray} {nL pc : Nat} {ls : Array Slot} {rest st0 : List Value} {Ts : List Cond} {own : String} {G : Gt} {A : Nat → Prop} {ws ws2 : va_W}
variable {y : MethodName} {bytes : ByteArray} {maxL n index mc ms b ci : Nat} {ret : Option FieldType} {wsy : List Cond} {rm : Room} {As : List Value} {fs : List Value} {q : vw_C}
theorem kl_vi {post : Int32 → va_W → Prop} (S : CallFix p m c cc nL s args Ts own) (w : Wd G A s ws H locs) (w2 : Wd G A s ws2 H locs) (hd : dsj ws ws2) (hM : Met l y wsy rm (Pw G (.ref b :: As) ws H.size) (va_Qi post (Bw G ws H.size) (va_A ws H.size)) mc ms (va_A ws H.size)) (he : hp ws b (.inr (ci, fs))) (hc : vwCl[ci]? = some q) (cw : CallW R s args own q.1 index y bytes maxL ret wsy rm mc ms n) (hn : As.length = n) (hsz : ls.size = nL) (hst : st0 = As.reverse ++ .ref b :: rest) (hro : (rest.map fun v => v.category).sum ≤ 8) (hdg : decode cc pc = .ok (.invokevirtual index, 3)) (hf : cells + mc ≤ R.cells ∧ slots + ms ≤ R.slots)
    (kk : ∀ (r : Int32) (u : va_W) (H1 : Heap) (locs1 : List Loc), post r u → Wd G A s u H1 locs1 → Wd G A s ws2 H1 locs1 → dsj u ws2 → W p l e R s m args below meth c H1 locs1 (cells + mc) (slots + ms) Q (F0 m (pc + 3) ls (.int r :: rest))) : W p l e R s m args below meth c H locs cells slots Q (F0 m pc ls st0) :=
  va_calli (va_runV S hM cw (w.preV he hc As) rfl hn hsz hst (lv_room hro) hdg hf) w.2.2.1 (fun q _ h => w.sub q h) w.sub (fun r u t H1 locs1 ht hvm hp hB hz hk hS => kk r u H1 locs1 hp (w.back hB ht hS) (w.other w2 hd hB ht hk hS).1 (w.other w2 hd hB ht hk hS).2)
theorem kl_vl {post : Int64 → va_W → Prop} (S : CallFix p m c cc nL s args Ts own) (w : Wd G A s ws H locs) (w2 : Wd G A s ws2 H locs) (hd : dsj ws ws2) (hM : Met l y wsy rm (Pw G (.ref b :: As) ws H.size) (va_Ql post (Bw G ws H.size) (va_A ws H.size)) mc ms (va_A ws H.size)) (he : hp ws b (.inr (ci, fs))) (hc : vwCl[ci]? = some q) (cw : CallW R s args own q.1 index y bytes maxL ret wsy rm mc ms n) (hn : As.length = n) (hsz : ls.size = nL) (hst : st0 = As.reverse ++ .ref b :: rest) (hro : (rest.map fun v => v.category).sum ≤ 8) (hdg : decode cc pc = .ok (.invokevirtual index, 3)) (hf : cells + mc ≤ R.cells ∧ slots + ms ≤ R.slots)
    (kk : ∀ (r : Int64) (u : va_W) (H1 : Heap) (locs1 : List Loc), post r u → Wd G A s u H1 locs1 → Wd G A s ws2 H1 locs1 → dsj u ws2 → W p l e R s m args below meth c H1 locs1 (cells + mc) (slots + ms) Q (F0 m (pc + 3) ls (.long r :: rest))) : W p l e R s m args below meth c H locs cells slots Q (F0 m pc ls st0) :=
  va_calll (va_runV S hM cw (w.preV he hc As) rfl hn hsz hst (lv_room hro) hdg hf) w.2.2.1 (fun q _ h => w.sub q h) w.sub (fun r u t H1 locs1 ht hvm hp hB hz hk hS => kk r u H1 locs1 hp (w.back hB ht hS) (w.other w2 hd hB ht hk hS).1 (w.other w2 hd hB ht hk hS).2)
theorem kl_iv {post : va_W → Prop} (S : CallFix p m c cc nL s args Ts own) (w : Wd G A s ws H locs) (w2 : Wd G A s ws2 H locs) (hd : dsj ws ws2) (hM : Met l y wsy rm (Pw G (.ref b :: As) ws H.size) (va_Qv post (Bw G ws H.size) (va_A ws H.size)) mc ms (va_A ws H.size)) (cw : CallB R s args own index y bytes maxL none wsy rm mc ms n ∧ y.name = "<init>" ∧ (Cond.instanceMethod y).before args s = true) (hn : As.length = n) (hsz : ls.size = nL) (hst : st0 = As.reverse ++ .ref b :: rest) (hro : (rest.map fun v => v.category).sum ≤ 8) (hdg : decode cc pc = .ok (.invokespecial index, 3)) (hf : cells + mc ≤ R.cells ∧ slots + ms ≤ R.slots)
    (kk : ∀ (u : va_W) (H1 : Heap) (locs1 : List Loc), post u → Wd G A s u H1 locs1 → Wd G A s ws2 H1 locs1 → dsj u ws2 → W p l e R s m args below meth c H1 locs1 (cells + mc) (slots + ms) Q (F0 m (pc + 3) ls rest)) : W p l e R s m args below meth c H locs cells slots Q (F0 m pc ls st0) :=
  va_callv (va_runI S hM cw (w.preS (.ref b :: As)) rfl hn hsz hst (lv_room hro) hdg hf) w.2.2.1 (fun q _ h => w.sub q h) w.sub (fun u t H1 locs1 ht hvm hp hB hz hk hS => kk u H1 locs1 hp (w.back hB ht hS) (w.other w2 hd hB ht hk hS).1 (w.other w2 hd hB ht hk hS).2)
end LAWC
/-! THE CLAIM OUT OF ONE WALK OF THE LAW'S BODY. Your part is whole_start (and what it stands on); all else here is the same for every law, but numbers. -/
def R_law : String := "SpanMoverLaw"
def lw_P (b : Addr) (xs : List Int32) (args : Array Value) (s : State) : Prop := args = #[.ref b] ∧ s.IntsAt b xs ∧ xs.length ≤ 3072 ∧ (Jvm.Cond.and given_1 narrow_1).before args s = true
def lw_Q (_ : Array Value) (s : State) (o : Outcome) (t : State) : Prop := o = .returned (some (.int 1)) ∧ Framed s o t [] 600000 7302250
def lw_Z (below : List Frame) (a : Array Value) (s : State) : State → Prop := fun t => ∃ o, t.status = .running ∧ Ended t below o ∧ lw_Q a s o t
/-- the law's own end, with 1 on the stack, nothing written that was there before, its room as the claim has it -/
theorem lw_ret {p : Program} {l : Launch} {e : Env} {s : State} {m : MethodId} {below : List Frame} {meth : Method} {c : Code} {b : Nat} (hx : p.tables.exec = Jvm.exec) (hb : c.code = code) (hr : meth.sig.returnType = ret) (hlocks : meth.locks = false) {pc : Nat} {H : Heap} {ls : Array Slot} (hdg : decode code pc = .ok (.ireturn, 1)) : W p l e room_1 s m #[Value.ref b] below meth c H [] 600000 7302250 (lw_Z below #[Value.ref b] s) (F0 m pc ls [.int 1]) := by
  intro T hT X
  obtain ⟨fs, hret, hrun, hended, hW, hframe⟩ := X.leave (v := some (.int 1)) (hlocks := hlocks) (fun h => by rw [hr] at h; cases h)
  have hmeth' : T.vm.method? m = some meth := X.method'
  refine ⟨T.setFrames fs, ?_, .returned (some (.int 1)), hrun, hended, rfl, ⟨_, rfl⟩, hW, hframe⟩
  jvm_step X.here [X.here.top, hx, hb, hdg, hmeth', hr, ret, narrow_b1]
  (try refine ⟨rfl, ?_⟩); (try refine ⟨rfl, ?_⟩)
  first | (intro acts; rw [hret _ acts rfl rfl rfl]) | rw [hret _ _ rfl rfl rfl]
  exact Steps.refl _
/-- what holds at the law's entry: the machine, the code, the tables' words (any of lw_tbl by 'hts w (by decide +kernel)'), the script of L ints xs at the cell b, what the Statement gives of the start (any of its parts by flat_of_before) -/
def lw_At (p : Program) (s : State) (m : MethodId) (meth : Method) (c : Code) (b L : Nat) (xs : Nat → Int32) : Prop :=
  p.tables.exec = Jvm.exec ∧ c.code = code ∧ meth.sig.returnType = ret ∧ c.maxLocals = 4 ∧ s.vm.findClass R_law = some m.cls ∧ (∀ w ∈ lw_tbl, w.before #[Value.ref b] s = true) ∧ va_X b L xs s s.heap ∧ b < s.heap.size ∧ meth.locks = false ∧ (Jvm.Cond.and given_1 narrow_1).before #[Value.ref b] s = true
