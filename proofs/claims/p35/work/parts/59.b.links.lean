
theorem mlL_12 : MLI RL 12 yX10_init cX10_init 1 0 := ⟨TB_t 953 (by decide +kernel) rfl, TB_t 955 (by decide +kernel) rfl, TB_t 11 (by decide +kernel) rfl, ⟨by decide, by decide, by decide +kernel⟩, TB_t 954 (by decide +kernel) rfl, rfl⟩
theorem mlL_9 : MLI RL 9 yX9_init cX9_init 1 0 := ⟨TB_t 22 (by decide +kernel) rfl, TB_t 24 (by decide +kernel) rfl, TB_t 1 (by decide +kernel) rfl, ⟨by decide, by decide, by decide +kernel⟩, TB_t 23 (by decide +kernel) rfl, rfl⟩
theorem nlL_10 : NL RL 10 8 14 [.null, .null, .null, .int 0, .int 0, .null, .int 0, .int 0, .int 0, .int 0, .int 0, .long 0, .int 0, .null] := ⟨RX10, TX10, tyX10, rfl, TB_t 951 (by decide +kernel) rfl, TB_t 952 (by decide +kernel) rfl, TB_t 11 (by decide +kernel) rfl, inX10, tyX10_ok, by decide⟩
theorem nlL_7 : NL RL 7 7 5 [.null, .null, .null, .null, .null] := ⟨RX9, TX9, tyX9, rfl, TB_t 20 (by decide +kernel) rfl, TB_t 21 (by decide +kernel) rfl, TB_t 1 (by decide +kernel) rfl, inX9, tyX9_ok, by decide⟩
