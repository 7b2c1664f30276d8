theorem flX9_23 : FL RX9 23 7 2 (.object "BillRegistry$Reader") true := ⟨RX9, TX9, 5, tyX9, rfl, by decide, TB_t 375 (by decide +kernel) rfl, inX9, tyX9_ok, nmX9, rfl, rfl⟩
theorem flX9_347 : FL RX9 347 3 0 (.array .int) true := ⟨RX4, TX4, 10, tyX4, rfl, by decide, TB_t 301 (by decide +kernel) rfl, inX4, tyX4_ok, nmX4, rfl, rfl⟩
theorem flX9_350 : FL RX9 350 3 2 .boolean false := ⟨RX4, TX4, 10, tyX4, rfl, by decide, TB_t 305 (by decide +kernel) rfl, inX4, tyX4_ok, nmX4, rfl, rfl⟩
theorem flX9_356 : FL RX9 356 3 1 (.object "BillRegistry$Verb") false := ⟨RX4, TX4, 10, tyX4, rfl, by decide, TB_t 303 (by decide +kernel) rfl, inX4, tyX4_ok, nmX4, rfl, rfl⟩
theorem flX9_365 : FL RX9 365 3 3 .boolean false := ⟨RX4, TX4, 10, tyX4, rfl, by decide, TB_t 307 (by decide +kernel) rfl, inX4, tyX4_ok, nmX4, rfl, rfl⟩
theorem wfJx29ce0_7 : Cond.fieldLink RJx29ce0 7 "java/lang/Enum" "ordinal" "I" ∈ TB := TB_t 1385 (by decide +kernel) rfl
theorem wsX9_351 : Cond.fieldLink RX9 351 "BillRegistry$1" "$SwitchMap$BillRegistry$Verb" "[I" ∈ TB := TB_t 514 (by decide +kernel) rfl
