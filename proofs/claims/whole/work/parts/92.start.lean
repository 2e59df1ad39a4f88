/-- the heap as the constructors leave it, computed -/
def hA0 : AH := (0, 0, fun _ => .inl (0, []))
def hA1 : AH := (1, 13, upA hA0.2.2 1 (.inl (7, [.null, .null, .null, .null, .null, .null, .null, .null, .null, .int 0, .int 0, .long 0, .long 0])))
def hA2 : AH := ((P_X7_init 1 hA1).getD ((), hA0)).2
def hA3 : AH := (74, hA2.2.1 + 37, upA hA2.2.2 74 (.inl (8, [.null, .null, .null, .null, .null, .null, .null, .null, .null, .null, .int 0, .int 0, .int 0, .null, .int 0, .long 0, .long 0, .null, .int 0, .int 0, .int 0, .int 0, .int 0, .int 0, .null, .null, .null, .null, .null, .int 0, .int 0, .int 0, .int 0, .int 0, .null, .null, .null])))
def hA4 : AH := ((P_X8_init 74 hA3).getD ((), hA0)).2
theorem ev1 : (P_X7_init 1 hA1).isSome = true := by decide +kernel
theorem ev2 : (P_X8_init 74 hA3).isSome = true := by decide +kernel
theorem ev3 : hA2.1 = 73 ∧ 13 ≤ hA2.2.1 ∧ hA4.1 = 94 ∧ hA2.2.1 + 37 ≤ hA4.2.1 ∧ hA4.2.1 ≤ 7302250 := by decide +kernel
