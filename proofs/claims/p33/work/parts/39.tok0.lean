theorem tp_readWord (l : Launch) (D : va_G) (K : Nat → ClassId) (ad : Nat → Nat) (z : TS) (o : Ok z) (p0 : Nat) (ap0 : at_ 7 p0 = true) (hs : tI z p0 5 = tI z p0 6) : cV l yX7_readWord cX7_readWord 4 ({ frames := 8, cells := 0, slots := 0, locals := 200 }) D K ad z [.ref (ad p0)] (fun u => Ok u ∧ KT z u) := by
  sorry
