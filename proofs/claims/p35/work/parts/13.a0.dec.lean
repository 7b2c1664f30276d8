theorem dX8_goOn_0 : decode cX8_goOn 0 = .ok (.iload_n 1, 1) := by decide +kernel
theorem dX8_goOn_1 : decode cX8_goOn 1 = .ok (.iconst 1, 1) := by decide +kernel
theorem dX8_goOn_2 : decode cX8_goOn 2 = .ok (.if_icmp .lt 21, 3) := by decide +kernel
theorem dX8_goOn_5 : decode cX8_goOn 5 = .ok (.iload_n 1, 1) := by decide +kernel
theorem dX8_goOn_6 : decode cX8_goOn 6 = .ok (.bipush 99, 2) := by decide +kernel
theorem dX8_goOn_8 : decode cX8_goOn 8 = .ok (.if_icmp .gt 15, 3) := by decide +kernel
theorem dX8_goOn_11 : decode cX8_goOn 11 = .ok (.aload_n 0, 1) := by decide +kernel
theorem dX8_goOn_12 : decode cX8_goOn 12 = .ok (.getfield 29, 3) := by decide +kernel
theorem dX8_goOn_15 : decode cX8_goOn 15 = .ok (.iload_n 1, 1) := by decide +kernel
theorem dX8_goOn_16 : decode cX8_goOn 16 = .ok (.iadd, 1) := by decide +kernel
theorem dX8_goOn_17 : decode cX8_goOn 17 = .ok (.sipush 999, 3) := by decide +kernel
theorem dX8_goOn_20 : decode cX8_goOn 20 = .ok (.if_icmp .le 6, 3) := by decide +kernel
theorem dX8_goOn_23 : decode cX8_goOn 23 = .ok (.bipush 30, 2) := by decide +kernel
theorem dX8_goOn_25 : decode cX8_goOn 25 = .ok (.ireturn, 1) := by decide +kernel
theorem dX8_goOn_26 : decode cX8_goOn 26 = .ok (.aload_n 0, 1) := by decide +kernel
theorem dX8_goOn_27 : decode cX8_goOn 27 = .ok (.dup, 1) := by decide +kernel
theorem dX8_goOn_28 : decode cX8_goOn 28 = .ok (.getfield 29, 3) := by decide +kernel
theorem dX8_goOn_31 : decode cX8_goOn 31 = .ok (.iload_n 1, 1) := by decide +kernel
theorem dX8_goOn_32 : decode cX8_goOn 32 = .ok (.iadd, 1) := by decide +kernel
theorem dX8_goOn_33 : decode cX8_goOn 33 = .ok (.putfield 29, 3) := by decide +kernel
theorem dX8_goOn_36 : decode cX8_goOn 36 = .ok (.iconst 0, 1) := by decide +kernel
theorem dX8_goOn_37 : decode cX8_goOn 37 = .ok (.ireturn, 1) := by decide +kernel
theorem dX8_hasBill_0 : decode cX8_hasBill 0 = .ok (.iload_n 1, 1) := by decide +kernel
theorem dX8_hasBill_1 : decode cX8_hasBill 1 = .ok (.ifCond .lt 15, 3) := by decide +kernel
theorem dX8_hasBill_4 : decode cX8_hasBill 4 = .ok (.iload_n 1, 1) := by decide +kernel
theorem dX8_hasBill_5 : decode cX8_hasBill 5 = .ok (.aload_n 0, 1) := by decide +kernel
theorem dX8_hasBill_6 : decode cX8_hasBill 6 = .ok (.getfield 36, 3) := by decide +kernel
theorem dX8_hasBill_9 : decode cX8_hasBill 9 = .ok (.if_icmp .ge 7, 3) := by decide +kernel
theorem dX8_hasBill_12 : decode cX8_hasBill 12 = .ok (.iconst 1, 1) := by decide +kernel
theorem dX8_hasBill_13 : decode cX8_hasBill 13 = .ok (.goto 4, 3) := by decide +kernel
theorem dX8_hasBill_16 : decode cX8_hasBill 16 = .ok (.iconst 0, 1) := by decide +kernel
theorem dX8_hasBill_17 : decode cX8_hasBill 17 = .ok (.ireturn, 1) := by decide +kernel
theorem dX8_hasParty_0 : decode cX8_hasParty 0 = .ok (.aload_n 0, 1) := by decide +kernel
theorem dX8_hasParty_1 : decode cX8_hasParty 1 = .ok (.iload_n 1, 1) := by decide +kernel
theorem dX8_hasParty_2 : decode cX8_hasParty 2 = .ok (.invokevirtual 68, 3) := by decide +kernel
theorem dX8_hasParty_5 : decode cX8_hasParty 5 = .ok (.ifCond .eq 24, 3) := by decide +kernel
theorem dX8_hasParty_8 : decode cX8_hasParty 8 = .ok (.iload_n 2, 1) := by decide +kernel
theorem dX8_hasParty_9 : decode cX8_hasParty 9 = .ok (.ifCond .lt 20, 3) := by decide +kernel
theorem dX8_hasParty_12 : decode cX8_hasParty 12 = .ok (.iload_n 2, 1) := by decide +kernel
theorem dX8_hasParty_13 : decode cX8_hasParty 13 = .ok (.aload_n 0, 1) := by decide +kernel
theorem dX8_hasParty_14 : decode cX8_hasParty 14 = .ok (.getfield 17, 3) := by decide +kernel
theorem dX8_hasParty_17 : decode cX8_hasParty 17 = .ok (.iload_n 1, 1) := by decide +kernel
theorem dX8_hasParty_18 : decode cX8_hasParty 18 = .ok (.aaload, 1) := by decide +kernel
theorem dX8_hasParty_19 : decode cX8_hasParty 19 = .ok (.invokevirtual 72, 3) := by decide +kernel
theorem dX8_hasParty_22 : decode cX8_hasParty 22 = .ok (.if_icmp .ge 7, 3) := by decide +kernel
theorem dX8_hasParty_25 : decode cX8_hasParty 25 = .ok (.iconst 1, 1) := by decide +kernel
theorem dX8_hasParty_26 : decode cX8_hasParty 26 = .ok (.goto 4, 3) := by decide +kernel
theorem dX8_hasParty_29 : decode cX8_hasParty 29 = .ok (.iconst 0, 1) := by decide +kernel
theorem dX8_hasParty_30 : decode cX8_hasParty 30 = .ok (.ireturn, 1) := by decide +kernel
theorem dX8_hasSigner_0 : decode cX8_hasSigner 0 = .ok (.aload_n 0, 1) := by decide +kernel
theorem dX8_hasSigner_1 : decode cX8_hasSigner 1 = .ok (.iload_n 1, 1) := by decide +kernel
theorem dX8_hasSigner_2 : decode cX8_hasSigner 2 = .ok (.iload_n 2, 1) := by decide +kernel
theorem dX8_hasSigner_3 : decode cX8_hasSigner 3 = .ok (.invokevirtual 76, 3) := by decide +kernel
theorem dX8_hasSigner_6 : decode cX8_hasSigner 6 = .ok (.ifCond .eq 20, 3) := by decide +kernel
theorem dX8_hasSigner_9 : decode cX8_hasSigner 9 = .ok (.aload_n 0, 1) := by decide +kernel
theorem dX8_hasSigner_10 : decode cX8_hasSigner 10 = .ok (.getfield 17, 3) := by decide +kernel
theorem dX8_hasSigner_13 : decode cX8_hasSigner 13 = .ok (.iload_n 1, 1) := by decide +kernel
theorem dX8_hasSigner_14 : decode cX8_hasSigner 14 = .ok (.aaload, 1) := by decide +kernel
theorem dX8_hasSigner_15 : decode cX8_hasSigner 15 = .ok (.iload_n 2, 1) := by decide +kernel
theorem dX8_hasSigner_16 : decode cX8_hasSigner 16 = .ok (.invokevirtual 80, 3) := by decide +kernel
theorem dX8_hasSigner_19 : decode cX8_hasSigner 19 = .ok (.ifCond .eq 7, 3) := by decide +kernel
theorem dX8_hasSigner_22 : decode cX8_hasSigner 22 = .ok (.iconst 1, 1) := by decide +kernel
theorem dX8_hasSigner_23 : decode cX8_hasSigner 23 = .ok (.goto 4, 3) := by decide +kernel
theorem dX8_hasSigner_26 : decode cX8_hasSigner 26 = .ok (.iconst 0, 1) := by decide +kernel
theorem dX8_hasSigner_27 : decode cX8_hasSigner 27 = .ok (.ireturn, 1) := by decide +kernel
theorem dX8_note_0 : decode cX8_note 0 = .ok (.aload_n 0, 1) := by decide +kernel
theorem dX8_note_1 : decode cX8_note 1 = .ok (.iload_n 1, 1) := by decide +kernel
theorem dX8_note_2 : decode cX8_note 2 = .ok (.putfield 45, 3) := by decide +kernel
theorem dX8_note_5 : decode cX8_note 5 = .ok (.iload_n 1, 1) := by decide +kernel
theorem dX8_note_6 : decode cX8_note 6 = .ok (.ifCond .eq 13, 3) := by decide +kernel
theorem dX8_note_9 : decode cX8_note 9 = .ok (.aload_n 0, 1) := by decide +kernel
theorem dX8_note_10 : decode cX8_note 10 = .ok (.dup, 1) := by decide +kernel
theorem dX8_note_11 : decode cX8_note 11 = .ok (.getfield 42, 3) := by decide +kernel
theorem dX8_note_14 : decode cX8_note 14 = .ok (.iconst 1, 1) := by decide +kernel
theorem dX8_note_15 : decode cX8_note 15 = .ok (.iadd, 1) := by decide +kernel
theorem dX8_note_16 : decode cX8_note 16 = .ok (.putfield 42, 3) := by decide +kernel
theorem dX8_note_19 : decode cX8_note 19 = .ok (.iload_n 1, 1) := by decide +kernel
theorem dX8_note_20 : decode cX8_note 20 = .ok (.ireturn, 1) := by decide +kernel
theorem dX8_setGrace_0 : decode cX8_setGrace 0 = .ok (.iload_n 1, 1) := by decide +kernel
theorem dX8_setGrace_1 : decode cX8_setGrace 1 = .ok (.iconst 1, 1) := by decide +kernel
theorem dX8_setGrace_2 : decode cX8_setGrace 2 = .ok (.if_icmp .lt 9, 3) := by decide +kernel
theorem dX8_setGrace_5 : decode cX8_setGrace 5 = .ok (.iload_n 1, 1) := by decide +kernel
theorem dX8_setGrace_6 : decode cX8_setGrace 6 = .ok (.bipush 9, 2) := by decide +kernel
theorem dX8_setGrace_8 : decode cX8_setGrace 8 = .ok (.if_icmp .le 6, 3) := by decide +kernel
theorem dX8_setGrace_11 : decode cX8_setGrace 11 = .ok (.bipush 30, 2) := by decide +kernel
theorem dX8_setGrace_13 : decode cX8_setGrace 13 = .ok (.ireturn, 1) := by decide +kernel
theorem dX8_setGrace_14 : decode cX8_setGrace 14 = .ok (.aload_n 0, 1) := by decide +kernel
theorem dX8_setGrace_15 : decode cX8_setGrace 15 = .ok (.iload_n 1, 1) := by decide +kernel
theorem dX8_setGrace_16 : decode cX8_setGrace 16 = .ok (.putfield 33, 3) := by decide +kernel
theorem dX8_setGrace_19 : decode cX8_setGrace 19 = .ok (.iconst 0, 1) := by decide +kernel
theorem dX8_setGrace_20 : decode cX8_setGrace 20 = .ok (.ireturn, 1) := by decide +kernel
