theorem flX8_21 : FL RX8 21 6 10 (.array .byte) true := ⟨RX8, TX8, 11, tyX8, rfl, by decide, TB_t 266 (by decide +kernel) rfl, inX8, tyX8_ok, nmX8, rfl, rfl⟩
theorem flX8_39 : FL RX8 39 6 3 .int false := ⟨RX8, TX8, 11, tyX8, rfl, by decide, TB_t 252 (by decide +kernel) rfl, inX8, tyX8_ok, nmX8, rfl, rfl⟩
theorem flX8_48 : FL RX8 48 6 6 .int false := ⟨RX8, TX8, 11, tyX8, rfl, by decide, TB_t 258 (by decide +kernel) rfl, inX8, tyX8_ok, nmX8, rfl, rfl⟩
theorem flX8_51 : FL RX8 51 6 7 .int false := ⟨RX8, TX8, 11, tyX8, rfl, by decide, TB_t 260 (by decide +kernel) rfl, inX8, tyX8_ok, nmX8, rfl, rfl⟩
theorem mlX8_64 : MLV RX8 64 yX8_addNumber cX8_addNumber 3 none 1 := ⟨TB_t 397 (by decide +kernel) rfl, TB_t 400 (by decide +kernel) rfl, TB_t 2 (by decide +kernel) rfl, ⟨by decide, by decide, by decide +kernel⟩, TB_t 399 (by decide +kernel) rfl, TB_s 0 (by decide +kernel) rfl⟩
