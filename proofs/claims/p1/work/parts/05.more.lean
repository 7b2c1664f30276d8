theorem neM {M : mM} {a b : Nat} {ea eb : va_E} (ha : M a = some ea) (hb : M b = some eb) (h : ¬ ea = eb) : a ≠ b := fun z => h (by rw [z, hb] at ha; exact (Option.some.inj ha).symm)
theorem nz {x : Int32} (h : x = 0 ∨ x = 1) : narrow .boolean (.int x) = .int x := by rcases h with rfl | rfl <;> rfl
theorem fz {x : Int32} (h : x = 0 ∨ x = 1) : fits .boolean (.int x) = true := by rcases h with rfl | rfl <;> rfl
theorem nbl (x : Int32) : (-128 : Int) ≤ (vp_nar .byte x).toInt := by
  rw [vp_nar_byte, Int8.toInt_toInt32]
  have := Int8.minValue_le_toInt x.toInt8
  have e : Int8.minValue.toInt = -128 := by decide
  omega
theorem nbh (x : Int32) : (vp_nar .byte x).toInt ≤ (127 : Int) := by
  rw [vp_nar_byte, Int8.toInt_toInt32]
  have := Int8.toInt_le x.toInt8
  have e : Int8.maxValue.toInt = 127 := by decide
  omega
