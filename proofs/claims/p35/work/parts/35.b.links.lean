
theorem mlX10_59 : MLV RX10 59 yX10_clears cX10_clears 3 none 1 := ⟨TB_t 1053 (by decide +kernel) rfl, TB_t 1056 (by decide +kernel) rfl, TB_t 11 (by decide +kernel) rfl, ⟨by decide, by decide, by decide +kernel⟩, TB_t 1055 (by decide +kernel) rfl, TB_s 23 (by decide +kernel) rfl⟩
theorem mlX10_63 : MLV RX10 63 yX10_goes cX10_goes 8 none 3 := ⟨TB_t 1092 (by decide +kernel) rfl, TB_t 1095 (by decide +kernel) rfl, TB_t 11 (by decide +kernel) rfl, ⟨by decide, by decide, by decide +kernel⟩, TB_t 1094 (by decide +kernel) rfl, TB_s 30 (by decide +kernel) rfl⟩
