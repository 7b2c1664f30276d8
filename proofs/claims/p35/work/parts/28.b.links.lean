
theorem mlX9_343 : MLV RX9 343 yX8_copy cX8_copy 3 none 1 := ⟨TB_t 941 (by decide +kernel) rfl, TB_t 944 (by decide +kernel) rfl, TB_t 2 (by decide +kernel) rfl, ⟨by decide, by decide, by decide +kernel⟩, TB_t 942 (by decide +kernel) rfl, TB_t 943 (by decide +kernel) rfl⟩
