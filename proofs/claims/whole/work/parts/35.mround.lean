theorem c_mrounded (l : Launch) {G : Gt} {ws : va_W} (sz : Nat) (v : Int64) : Met l yX6_rounded wsX6_rounded ({ frames := 0, cells := 0, slots := 0, locals := 0 } : Room) (Pw G [.long v] ws sz) (vp_Sl (fun r : Int64 => r = FP.d2l (FP.l2d v))) 0 0 (fun _ => False) := by
  sorry
