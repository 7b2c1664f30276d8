
theorem mlX10_66 : MLV RX10 66 yX10_hasSigned cX10_hasSigned 3 (some .boolean) 2 := ⟨TB_t 1140 (by decide +kernel) rfl, TB_t 1143 (by decide +kernel) rfl, TB_t 11 (by decide +kernel) rfl, ⟨by decide, by decide, by decide +kernel⟩, TB_t 1142 (by decide +kernel) rfl, TB_s 39 (by decide +kernel) rfl⟩
