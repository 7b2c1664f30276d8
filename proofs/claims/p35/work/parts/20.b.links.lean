
theorem mlJ0_1059 : MLS RJ0 1059 yJ3_checkIndex_8e157 cJ3_checkIndex_8e157 3 (some .int) 3 := ⟨TB_t 481 (by decide +kernel) rfl, TB_t 483 (by decide +kernel) rfl, TB_t 15 (by decide +kernel) rfl, ⟨by decide, by decide, by decide +kernel⟩, TB_t 482 (by decide +kernel) rfl⟩
theorem mlJ0_335 : MLV RJ0 335 yJ0_coder_7d493 cJ0_coder_7d493 1 (some .byte) 0 := ⟨TB_t 459 (by decide +kernel) rfl, TB_t 462 (by decide +kernel) rfl, TB_t 13 (by decide +kernel) rfl, ⟨by decide, by decide, by decide +kernel⟩, TB_t 460 (by decide +kernel) rfl, TB_t 461 (by decide +kernel) rfl⟩
theorem mlJ0_492 : MLV RJ0 492 yJ0_isLatin1_aae02 cJ0_isLatin1_aae02 1 (some .boolean) 0 := ⟨TB_t 469 (by decide +kernel) rfl, TB_t 472 (by decide +kernel) rfl, TB_t 13 (by decide +kernel) rfl, ⟨by decide, by decide, by decide +kernel⟩, TB_t 470 (by decide +kernel) rfl, TB_t 471 (by decide +kernel) rfl⟩
theorem mlJ0_495 : MLS RJ0 495 yJ1_charAt_3b067 cJ1_charAt_3b067 2 (some .char) 2 := ⟨TB_t 473 (by decide +kernel) rfl, TB_t 475 (by decide +kernel) rfl, TB_t 14 (by decide +kernel) rfl, ⟨by decide, by decide, by decide +kernel⟩, TB_t 474 (by decide +kernel) rfl⟩
theorem mlJ1_9 : MLS RJ1 9 yJ0_checkIndex_df160 cJ0_checkIndex_df160 2 none 2 := ⟨TB_t 476 (by decide +kernel) rfl, TB_t 478 (by decide +kernel) rfl, TB_t 13 (by decide +kernel) rfl, ⟨by decide, by decide, by decide +kernel⟩, TB_t 477 (by decide +kernel) rfl⟩
theorem wfJ0_15 : Cond.fieldLink RJ0 15 "java/lang/String" "coder" "B" ∈ TB := TB_t 1381 (by decide +kernel) rfl
theorem wfJ0_9 : Cond.fieldLink RJ0 9 "java/lang/String" "value" "[B" ∈ TB := TB_t 1380 (by decide +kernel) rfl
theorem wsJ0_1053 : Cond.fieldLink RJ0 1053 "jdk/internal/util/Preconditions" "SIOOBE_FORMATTER" "Ljava/util/function/BiFunction;" ∈ TB := TB_t 479 (by decide +kernel) rfl
theorem wsJ0_38 : Cond.fieldLink RJ0 38 "java/lang/String" "COMPACT_STRINGS" "Z" ∈ TB := TB_t 463 (by decide +kernel) rfl
