theorem flX10_24 : FL RX10 24 8 5 (.array .int) true := ⟨RX10, TX10, 14, tyX10, rfl, by decide, TB_t 966 (by decide +kernel) rfl, inX10, tyX10_ok, nmX10, rfl, rfl⟩
theorem flX10_27 : FL RX10 27 8 13 (.array .int) true := ⟨RX10, TX10, 14, tyX10, rfl, by decide, TB_t 974 (by decide +kernel) rfl, inX10, tyX10_ok, nmX10, rfl, rfl⟩
theorem w_ac2 : Cond.arrayClass .boolean ∈ TB := TB_t 1004 (by decide +kernel) rfl
theorem wlX10_1 : Cond.methodLink RX10 1 objectInit ∈ TB := TB_t 956 (by decide +kernel) rfl
