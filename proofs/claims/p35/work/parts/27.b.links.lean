
theorem mlX8_60 : MLV RX8 60 yX1_copy cX1_copy 3 none 1 := ⟨TB_t 946 (by decide +kernel) rfl, TB_t 892 (by decide +kernel) rfl, TB_t 3 (by decide +kernel) rfl, ⟨by decide, by decide, by decide +kernel⟩, TB_t 890 (by decide +kernel) rfl, TB_t 891 (by decide +kernel) rfl⟩
