theorem flX8_42 : FL RX8 42 6 4 .int false := ⟨RX8, TX8, 11, tyX8, rfl, by decide, TB_t 254 (by decide +kernel) rfl, inX8, tyX8_ok, nmX8, rfl, rfl, fun h => by cases h⟩
theorem flX8_45 : FL RX8 45 6 5 .int false := ⟨RX8, TX8, 11, tyX8, rfl, by decide, TB_t 256 (by decide +kernel) rfl, inX8, tyX8_ok, nmX8, rfl, rfl, fun h => by cases h⟩

