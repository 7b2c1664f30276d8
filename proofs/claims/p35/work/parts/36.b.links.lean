
theorem mlX10_88 : MLV RX10 88 yX10_frees cX10_frees 5 none 3 := ⟨TB_t 1176 (by decide +kernel) rfl, TB_t 1179 (by decide +kernel) rfl, TB_t 11 (by decide +kernel) rfl, ⟨by decide, by decide, by decide +kernel⟩, TB_t 1178 (by decide +kernel) rfl, TB_s 47 (by decide +kernel) rfl⟩
theorem mlX10_91 : MLV RX10 91 yX10_startsChain cX10_startsChain 4 none 1 := ⟨TB_t 1057 (by decide +kernel) rfl, TB_t 1060 (by decide +kernel) rfl, TB_t 11 (by decide +kernel) rfl, ⟨by decide, by decide, by decide +kernel⟩, TB_t 1059 (by decide +kernel) rfl, TB_s 24 (by decide +kernel) rfl⟩
