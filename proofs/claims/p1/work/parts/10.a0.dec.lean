theorem dX8_acceptOne_0 : decode cX8_acceptOne 0 = .ok (.aload_n 0, 1) := by decide +kernel
theorem dX8_acceptOne_1 : decode cX8_acceptOne 1 = .ok (.iload_n 1, 1) := by decide +kernel
theorem dX8_acceptOne_2 : decode cX8_acceptOne 2 = .ok (.invokevirtual 68, 3) := by decide +kernel
theorem dX8_acceptOne_5 : decode cX8_acceptOne 5 = .ok (.ifCond .ne 6, 3) := by decide +kernel
theorem dX8_acceptOne_8 : decode cX8_acceptOne 8 = .ok (.bipush 30, 2) := by decide +kernel
theorem dX8_acceptOne_10 : decode cX8_acceptOne 10 = .ok (.ireturn, 1) := by decide +kernel
theorem dX8_findOne_0 : decode cX8_findOne 0 = .ok (.aload_n 0, 1) := by decide +kernel
theorem dX8_findOne_1 : decode cX8_findOne 1 = .ok (.iload_n 1, 1) := by decide +kernel
theorem dX8_findOne_2 : decode cX8_findOne 2 = .ok (.iload_n 2, 1) := by decide +kernel
theorem dX8_findOne_3 : decode cX8_findOne 3 = .ok (.iconst 0, 1) := by decide +kernel
theorem dX8_findOne_4 : decode cX8_findOne 4 = .ok (.invokevirtual 109, 3) := by decide +kernel
theorem dX8_findOne_7 : decode cX8_findOne 7 = .ok (.istore_n 3, 1) := by decide +kernel
theorem dX8_findOne_8 : decode cX8_findOne 8 = .ok (.iload_n 3, 1) := by decide +kernel
theorem dX8_findOne_9 : decode cX8_findOne 9 = .ok (.ifCond .ne 28, 3) := by decide +kernel
theorem dX8_findOne_37 : decode cX8_findOne 37 = .ok (.iload_n 3, 1) := by decide +kernel
theorem dX8_findOne_38 : decode cX8_findOne 38 = .ok (.ireturn, 1) := by decide +kernel
theorem dX8_giveDefence_0 : decode cX8_giveDefence 0 = .ok (.aload_n 0, 1) := by decide +kernel
theorem dX8_giveDefence_1 : decode cX8_giveDefence 1 = .ok (.iload_n 1, 1) := by decide +kernel
theorem dX8_giveDefence_2 : decode cX8_giveDefence 2 = .ok (.iload_n 2, 1) := by decide +kernel
theorem dX8_giveDefence_3 : decode cX8_giveDefence 3 = .ok (.invokevirtual 138, 3) := by decide +kernel
theorem dX8_giveDefence_6 : decode cX8_giveDefence 6 = .ok (.ifCond .ne 6, 3) := by decide +kernel
theorem dX8_giveDefence_9 : decode cX8_giveDefence 9 = .ok (.bipush 30, 2) := by decide +kernel
theorem dX8_giveDefence_11 : decode cX8_giveDefence 11 = .ok (.ireturn, 1) := by decide +kernel
theorem dX8_giveNotice_0 : decode cX8_giveNotice 0 = .ok (.iload_n 3, 1) := by decide +kernel
theorem dX8_giveNotice_1 : decode cX8_giveNotice 1 = .ok (.iconst 1, 1) := by decide +kernel
theorem dX8_giveNotice_2 : decode cX8_giveNotice 2 = .ok (.if_icmp .lt 26, 3) := by decide +kernel
theorem dX8_giveNotice_5 : decode cX8_giveNotice 5 = .ok (.aload_n 0, 1) := by decide +kernel
theorem dX8_giveNotice_6 : decode cX8_giveNotice 6 = .ok (.iload_n 1, 1) := by decide +kernel
theorem dX8_giveNotice_7 : decode cX8_giveNotice 7 = .ok (.iload_n 3, 1) := by decide +kernel
theorem dX8_giveNotice_8 : decode cX8_giveNotice 8 = .ok (.invokevirtual 138, 3) := by decide +kernel
theorem dX8_giveNotice_11 : decode cX8_giveNotice 11 = .ok (.ifCond .eq 17, 3) := by decide +kernel
theorem dX8_giveNotice_28 : decode cX8_giveNotice 28 = .ok (.bipush 30, 2) := by decide +kernel
theorem dX8_giveNotice_30 : decode cX8_giveNotice 30 = .ok (.ireturn, 1) := by decide +kernel
theorem dX8_goOn_0 : decode cX8_goOn 0 = .ok (.iload_n 1, 1) := by decide +kernel
theorem dX8_goOn_1 : decode cX8_goOn 1 = .ok (.iconst 1, 1) := by decide +kernel
theorem dX8_goOn_2 : decode cX8_goOn 2 = .ok (.if_icmp .lt 21, 3) := by decide +kernel
theorem dX8_goOn_5 : decode cX8_goOn 5 = .ok (.iload_n 1, 1) := by decide +kernel
theorem dX8_goOn_6 : decode cX8_goOn 6 = .ok (.bipush 99, 2) := by decide +kernel
theorem dX8_goOn_8 : decode cX8_goOn 8 = .ok (.if_icmp .gt 15, 3) := by decide +kernel
theorem dX8_goOn_11 : decode cX8_goOn 11 = .ok (.aload_n 0, 1) := by decide +kernel
theorem dX8_goOn_12 : decode cX8_goOn 12 = .ok (.getfield 29, 3) := by decide +kernel
theorem dX8_goOn_15 : decode cX8_goOn 15 = .ok (.iload_n 1, 1) := by decide +kernel
theorem dX8_goOn_16 : decode cX8_goOn 16 = .ok (.iadd, 1) := by decide +kernel
theorem dX8_goOn_17 : decode cX8_goOn 17 = .ok (.sipush 999, 3) := by decide +kernel
theorem dX8_goOn_20 : decode cX8_goOn 20 = .ok (.if_icmp .le 6, 3) := by decide +kernel
theorem dX8_goOn_23 : decode cX8_goOn 23 = .ok (.bipush 30, 2) := by decide +kernel
theorem dX8_goOn_25 : decode cX8_goOn 25 = .ok (.ireturn, 1) := by decide +kernel
theorem dX8_goOn_26 : decode cX8_goOn 26 = .ok (.aload_n 0, 1) := by decide +kernel
theorem dX8_goOn_27 : decode cX8_goOn 27 = .ok (.dup, 1) := by decide +kernel
theorem dX8_goOn_28 : decode cX8_goOn 28 = .ok (.getfield 29, 3) := by decide +kernel
theorem dX8_goOn_31 : decode cX8_goOn 31 = .ok (.iload_n 1, 1) := by decide +kernel
theorem dX8_goOn_32 : decode cX8_goOn 32 = .ok (.iadd, 1) := by decide +kernel
theorem dX8_goOn_33 : decode cX8_goOn 33 = .ok (.putfield 29, 3) := by decide +kernel
theorem dX8_goOn_36 : decode cX8_goOn 36 = .ok (.iconst 0, 1) := by decide +kernel
theorem dX8_goOn_37 : decode cX8_goOn 37 = .ok (.ireturn, 1) := by decide +kernel
theorem dX8_hasBill_0 : decode cX8_hasBill 0 = .ok (.iload_n 1, 1) := by decide +kernel
theorem dX8_hasBill_1 : decode cX8_hasBill 1 = .ok (.ifCond .lt 15, 3) := by decide +kernel
theorem dX8_hasBill_4 : decode cX8_hasBill 4 = .ok (.iload_n 1, 1) := by decide +kernel
theorem dX8_hasBill_5 : decode cX8_hasBill 5 = .ok (.aload_n 0, 1) := by decide +kernel
theorem dX8_hasBill_6 : decode cX8_hasBill 6 = .ok (.getfield 36, 3) := by decide +kernel
theorem dX8_hasBill_9 : decode cX8_hasBill 9 = .ok (.if_icmp .ge 7, 3) := by decide +kernel
theorem dX8_hasBill_12 : decode cX8_hasBill 12 = .ok (.iconst 1, 1) := by decide +kernel
theorem dX8_hasBill_13 : decode cX8_hasBill 13 = .ok (.goto 4, 3) := by decide +kernel
theorem dX8_hasBill_16 : decode cX8_hasBill 16 = .ok (.iconst 0, 1) := by decide +kernel
theorem dX8_hasBill_17 : decode cX8_hasBill 17 = .ok (.ireturn, 1) := by decide +kernel
theorem dX8_hasParty_0 : decode cX8_hasParty 0 = .ok (.aload_n 0, 1) := by decide +kernel
theorem dX8_hasParty_1 : decode cX8_hasParty 1 = .ok (.iload_n 1, 1) := by decide +kernel
theorem dX8_hasParty_2 : decode cX8_hasParty 2 = .ok (.invokevirtual 68, 3) := by decide +kernel
theorem dX8_hasParty_5 : decode cX8_hasParty 5 = .ok (.ifCond .eq 24, 3) := by decide +kernel
theorem dX8_hasParty_29 : decode cX8_hasParty 29 = .ok (.iconst 0, 1) := by decide +kernel
theorem dX8_hasParty_30 : decode cX8_hasParty 30 = .ok (.ireturn, 1) := by decide +kernel
theorem dX8_hasSigner_0 : decode cX8_hasSigner 0 = .ok (.aload_n 0, 1) := by decide +kernel
theorem dX8_hasSigner_1 : decode cX8_hasSigner 1 = .ok (.iload_n 1, 1) := by decide +kernel
theorem dX8_hasSigner_2 : decode cX8_hasSigner 2 = .ok (.iload_n 2, 1) := by decide +kernel
theorem dX8_hasSigner_3 : decode cX8_hasSigner 3 = .ok (.invokevirtual 76, 3) := by decide +kernel
theorem dX8_hasSigner_6 : decode cX8_hasSigner 6 = .ok (.ifCond .eq 20, 3) := by decide +kernel
theorem dX8_hasSigner_26 : decode cX8_hasSigner 26 = .ok (.iconst 0, 1) := by decide +kernel
theorem dX8_hasSigner_27 : decode cX8_hasSigner 27 = .ok (.ireturn, 1) := by decide +kernel
theorem dX8_note_0 : decode cX8_note 0 = .ok (.aload_n 0, 1) := by decide +kernel
theorem dX8_note_1 : decode cX8_note 1 = .ok (.iload_n 1, 1) := by decide +kernel
theorem dX8_note_2 : decode cX8_note 2 = .ok (.putfield 45, 3) := by decide +kernel
theorem dX8_note_5 : decode cX8_note 5 = .ok (.iload_n 1, 1) := by decide +kernel
theorem dX8_note_6 : decode cX8_note 6 = .ok (.ifCond .eq 13, 3) := by decide +kernel
theorem dX8_note_9 : decode cX8_note 9 = .ok (.aload_n 0, 1) := by decide +kernel
theorem dX8_note_10 : decode cX8_note 10 = .ok (.dup, 1) := by decide +kernel
theorem dX8_note_11 : decode cX8_note 11 = .ok (.getfield 42, 3) := by decide +kernel
theorem dX8_note_14 : decode cX8_note 14 = .ok (.iconst 1, 1) := by decide +kernel
theorem dX8_note_15 : decode cX8_note 15 = .ok (.iadd, 1) := by decide +kernel
theorem dX8_note_16 : decode cX8_note 16 = .ok (.putfield 42, 3) := by decide +kernel
theorem dX8_note_19 : decode cX8_note 19 = .ok (.iload_n 1, 1) := by decide +kernel
theorem dX8_note_20 : decode cX8_note 20 = .ok (.ireturn, 1) := by decide +kernel
theorem dX8_passForged_0 : decode cX8_passForged 0 = .ok (.aload_n 0, 1) := by decide +kernel
theorem dX8_passForged_1 : decode cX8_passForged 1 = .ok (.iload_n 1, 1) := by decide +kernel
theorem dX8_passForged_2 : decode cX8_passForged 2 = .ok (.invokevirtual 68, 3) := by decide +kernel
theorem dX8_passForged_5 : decode cX8_passForged 5 = .ok (.ifCond .eq 23, 3) := by decide +kernel
theorem dX8_passForged_28 : decode cX8_passForged 28 = .ok (.bipush 30, 2) := by decide +kernel
theorem dX8_passForged_30 : decode cX8_passForged 30 = .ok (.ireturn, 1) := by decide +kernel
theorem dX8_passOn_0 : decode cX8_passOn 0 = .ok (.iload_n 2, 1) := by decide +kernel
theorem dX8_passOn_1 : decode cX8_passOn 1 = .ok (.ifCond .lt 18, 3) := by decide +kernel
theorem dX8_passOn_4 : decode cX8_passOn 4 = .ok (.iload_n 2, 1) := by decide +kernel
theorem dX8_passOn_5 : decode cX8_passOn 5 = .ok (.iconst 3, 1) := by decide +kernel
theorem dX8_passOn_6 : decode cX8_passOn 6 = .ok (.if_icmp .gt 13, 3) := by decide +kernel
theorem dX8_passOn_9 : decode cX8_passOn 9 = .ok (.iload 6, 2) := by decide +kernel
theorem dX8_passOn_11 : decode cX8_passOn 11 = .ok (.ifCond .eq 11, 3) := by decide +kernel
theorem dX8_passOn_14 : decode cX8_passOn 14 = .ok (.iload_n 2, 1) := by decide +kernel
theorem dX8_passOn_15 : decode cX8_passOn 15 = .ok (.iconst 3, 1) := by decide +kernel
theorem dX8_passOn_16 : decode cX8_passOn 16 = .ok (.if_icmp .ne 6, 3) := by decide +kernel
theorem dX8_passOn_19 : decode cX8_passOn 19 = .ok (.bipush 30, 2) := by decide +kernel
theorem dX8_passOn_21 : decode cX8_passOn 21 = .ok (.ireturn, 1) := by decide +kernel
theorem dX8_passOn_22 : decode cX8_passOn 22 = .ok (.aload_n 0, 1) := by decide +kernel
theorem dX8_passOn_23 : decode cX8_passOn 23 = .ok (.iload_n 1, 1) := by decide +kernel
theorem dX8_passOn_24 : decode cX8_passOn 24 = .ok (.iload_n 3, 1) := by decide +kernel
theorem dX8_passOn_25 : decode cX8_passOn 25 = .ok (.iload 4, 2) := by decide +kernel
theorem dX8_passOn_27 : decode cX8_passOn 27 = .ok (.invokevirtual 109, 3) := by decide +kernel
theorem dX8_passOn_30 : decode cX8_passOn 30 = .ok (.istore 7, 2) := by decide +kernel
theorem dX8_passOn_32 : decode cX8_passOn 32 = .ok (.iload 7, 2) := by decide +kernel
theorem dX8_passOn_34 : decode cX8_passOn 34 = .ok (.ifCond .ne 66, 3) := by decide +kernel
theorem dX8_passOn_100 : decode cX8_passOn 100 = .ok (.iload 7, 2) := by decide +kernel
theorem dX8_passOn_102 : decode cX8_passOn 102 = .ok (.ireturn, 1) := by decide +kernel
theorem dX8_payOne_0 : decode cX8_payOne 0 = .ok (.aload_n 0, 1) := by decide +kernel
theorem dX8_payOne_1 : decode cX8_payOne 1 = .ok (.iload_n 1, 1) := by decide +kernel
theorem dX8_payOne_2 : decode cX8_payOne 2 = .ok (.iload_n 2, 1) := by decide +kernel
theorem dX8_payOne_3 : decode cX8_payOne 3 = .ok (.invokevirtual 76, 3) := by decide +kernel
theorem dX8_payOne_6 : decode cX8_payOne 6 = .ok (.ifCond .ne 6, 3) := by decide +kernel
theorem dX8_payOne_9 : decode cX8_payOne 9 = .ok (.bipush 30, 2) := by decide +kernel
theorem dX8_payOne_11 : decode cX8_payOne 11 = .ok (.ireturn, 1) := by decide +kernel
theorem dX8_presentOne_0 : decode cX8_presentOne 0 = .ok (.aload_n 0, 1) := by decide +kernel
theorem dX8_presentOne_1 : decode cX8_presentOne 1 = .ok (.iload_n 1, 1) := by decide +kernel
theorem dX8_presentOne_2 : decode cX8_presentOne 2 = .ok (.invokevirtual 68, 3) := by decide +kernel
theorem dX8_presentOne_5 : decode cX8_presentOne 5 = .ok (.ifCond .ne 6, 3) := by decide +kernel
theorem dX8_presentOne_8 : decode cX8_presentOne 8 = .ok (.bipush 30, 2) := by decide +kernel
theorem dX8_presentOne_10 : decode cX8_presentOne 10 = .ok (.ireturn, 1) := by decide +kernel
theorem dX8_releaseOne_0 : decode cX8_releaseOne 0 = .ok (.aload_n 0, 1) := by decide +kernel
theorem dX8_releaseOne_1 : decode cX8_releaseOne 1 = .ok (.iload_n 1, 1) := by decide +kernel
theorem dX8_releaseOne_2 : decode cX8_releaseOne 2 = .ok (.iload_n 2, 1) := by decide +kernel
theorem dX8_releaseOne_3 : decode cX8_releaseOne 3 = .ok (.invokevirtual 138, 3) := by decide +kernel
theorem dX8_releaseOne_6 : decode cX8_releaseOne 6 = .ok (.ifCond .ne 6, 3) := by decide +kernel
theorem dX8_releaseOne_9 : decode cX8_releaseOne 9 = .ok (.bipush 30, 2) := by decide +kernel
theorem dX8_releaseOne_11 : decode cX8_releaseOne 11 = .ok (.ireturn, 1) := by decide +kernel
theorem dX8_setCash_0 : decode cX8_setCash 0 = .ok (.iload_n 1, 1) := by decide +kernel
theorem dX8_setCash_1 : decode cX8_setCash 1 = .ok (.invokestatic 94, 3) := by decide +kernel
theorem dX8_setCash_4 : decode cX8_setCash 4 = .ok (.ifCond .eq 14, 3) := by decide +kernel
theorem dX8_setCash_7 : decode cX8_setCash 7 = .ok (.iload_n 2, 1) := by decide +kernel
theorem dX8_setCash_8 : decode cX8_setCash 8 = .ok (.ifCond .lt 10, 3) := by decide +kernel
theorem dX8_setCash_11 : decode cX8_setCash 11 = .ok (.iload_n 2, 1) := by decide +kernel
theorem dX8_setCash_12 : decode cX8_setCash 12 = .ok (.sipush 9999, 3) := by decide +kernel
theorem dX8_setCash_15 : decode cX8_setCash 15 = .ok (.if_icmp .le 6, 3) := by decide +kernel
theorem dX8_setCash_18 : decode cX8_setCash 18 = .ok (.bipush 30, 2) := by decide +kernel
theorem dX8_setCash_20 : decode cX8_setCash 20 = .ok (.ireturn, 1) := by decide +kernel
theorem dX8_setCash_21 : decode cX8_setCash 21 = .ok (.aload_n 0, 1) := by decide +kernel
theorem dX8_setCash_22 : decode cX8_setCash 22 = .ok (.getfield 9, 3) := by decide +kernel
theorem dX8_setCash_25 : decode cX8_setCash 25 = .ok (.iload_n 1, 1) := by decide +kernel
theorem dX8_setCash_26 : decode cX8_setCash 26 = .ok (.iload_n 2, 1) := by decide +kernel
theorem dX8_setCash_27 : decode cX8_setCash 27 = .ok (.iastore, 1) := by decide +kernel
theorem dX8_setCash_28 : decode cX8_setCash 28 = .ok (.iconst 0, 1) := by decide +kernel
theorem dX8_setCash_29 : decode cX8_setCash 29 = .ok (.ireturn, 1) := by decide +kernel
theorem dX8_setGrace_0 : decode cX8_setGrace 0 = .ok (.iload_n 1, 1) := by decide +kernel
theorem dX8_setGrace_1 : decode cX8_setGrace 1 = .ok (.iconst 1, 1) := by decide +kernel
theorem dX8_setGrace_2 : decode cX8_setGrace 2 = .ok (.if_icmp .lt 9, 3) := by decide +kernel
theorem dX8_setGrace_5 : decode cX8_setGrace 5 = .ok (.iload_n 1, 1) := by decide +kernel
theorem dX8_setGrace_6 : decode cX8_setGrace 6 = .ok (.bipush 9, 2) := by decide +kernel
theorem dX8_setGrace_8 : decode cX8_setGrace 8 = .ok (.if_icmp .le 6, 3) := by decide +kernel
theorem dX8_setGrace_11 : decode cX8_setGrace 11 = .ok (.bipush 30, 2) := by decide +kernel
theorem dX8_setGrace_13 : decode cX8_setGrace 13 = .ok (.ireturn, 1) := by decide +kernel
theorem dX8_setGrace_14 : decode cX8_setGrace 14 = .ok (.aload_n 0, 1) := by decide +kernel
theorem dX8_setGrace_15 : decode cX8_setGrace 15 = .ok (.iload_n 1, 1) := by decide +kernel
theorem dX8_setGrace_16 : decode cX8_setGrace 16 = .ok (.putfield 33, 3) := by decide +kernel
theorem dX8_setGrace_19 : decode cX8_setGrace 19 = .ok (.iconst 0, 1) := by decide +kernel
theorem dX8_setGrace_20 : decode cX8_setGrace 20 = .ok (.ireturn, 1) := by decide +kernel
theorem dX8_whyNoStep_0 : decode cX8_whyNoStep 0 = .ok (.aload_n 0, 1) := by decide +kernel
theorem dX8_whyNoStep_1 : decode cX8_whyNoStep 1 = .ok (.iload_n 1, 1) := by decide +kernel
theorem dX8_whyNoStep_2 : decode cX8_whyNoStep 2 = .ok (.invokevirtual 68, 3) := by decide +kernel
theorem dX8_whyNoStep_5 : decode cX8_whyNoStep 5 = .ok (.ifCond .eq 21, 3) := by decide +kernel
theorem dX8_whyNoStep_26 : decode cX8_whyNoStep 26 = .ok (.bipush 30, 2) := by decide +kernel
theorem dX8_whyNoStep_28 : decode cX8_whyNoStep 28 = .ok (.ireturn, 1) := by decide +kernel
theorem dX9_isPerson_0 : decode cX9_isPerson 0 = .ok (.iload_n 0, 1) := by decide +kernel
theorem dX9_isPerson_1 : decode cX9_isPerson 1 = .ok (.ifCond .lt 13, 3) := by decide +kernel
theorem dX9_isPerson_4 : decode cX9_isPerson 4 = .ok (.iload_n 0, 1) := by decide +kernel
theorem dX9_isPerson_5 : decode cX9_isPerson 5 = .ok (.bipush 8, 2) := by decide +kernel
theorem dX9_isPerson_7 : decode cX9_isPerson 7 = .ok (.if_icmp .ge 7, 3) := by decide +kernel
theorem dX9_isPerson_10 : decode cX9_isPerson 10 = .ok (.iconst 1, 1) := by decide +kernel
theorem dX9_isPerson_11 : decode cX9_isPerson 11 = .ok (.goto 4, 3) := by decide +kernel
theorem dX9_isPerson_14 : decode cX9_isPerson 14 = .ok (.iconst 0, 1) := by decide +kernel
theorem dX9_isPerson_15 : decode cX9_isPerson 15 = .ok (.ireturn, 1) := by decide +kernel
theorem dX9_refusalOf_0 : decode cX9_refusalOf 0 = .ok (.iload_n 0, 1) := by decide +kernel
theorem dX9_refusalOf_1 : decode cX9_refusalOf 1 = .ok (.iconst 1, 1) := by decide +kernel
theorem dX9_refusalOf_2 : decode cX9_refusalOf 2 = .ok (.if_icmp .ne 7, 3) := by decide +kernel
theorem dX9_refusalOf_5 : decode cX9_refusalOf 5 = .ok (.iconst 0, 1) := by decide +kernel
theorem dX9_refusalOf_6 : decode cX9_refusalOf 6 = .ok (.goto 4, 3) := by decide +kernel
theorem dX9_refusalOf_9 : decode cX9_refusalOf 9 = .ok (.iload_n 0, 1) := by decide +kernel
theorem dX9_refusalOf_10 : decode cX9_refusalOf 10 = .ok (.ireturn, 1) := by decide +kernel
