theorem flX10_13 : FL RX10 13 8 1 (.array .int) true := ⟨RX10, TX10, 14, tyX10, rfl, by decide, TB_t 962 (by decide +kernel) rfl, inX10, tyX10_ok, nmX10, rfl, rfl⟩
theorem flX10_16 : FL RX10 16 8 2 (.array .boolean) true := ⟨RX10, TX10, 14, tyX10, rfl, by decide, TB_t 963 (by decide +kernel) rfl, inX10, tyX10_ok, nmX10, rfl, rfl⟩
theorem flX10_20 : FL RX10 20 8 4 .int false := ⟨RX10, TX10, 14, tyX10, rfl, by decide, TB_t 965 (by decide +kernel) rfl, inX10, tyX10_ok, nmX10, rfl, rfl⟩

