theorem dX10_at_0 : decode cX10_at 0 = .ok (.iload_n 0, 1) := by decide +kernel
theorem dX10_at_1 : decode cX10_at 1 = .ok (.bipush 20, 2) := by decide +kernel
theorem dX10_at_3 : decode cX10_at 3 = .ok (.iadd, 1) := by decide +kernel
theorem dX10_at_4 : decode cX10_at 4 = .ok (.sipush 280, 3) := by decide +kernel
theorem dX10_at_7 : decode cX10_at 7 = .ok (.iload_n 1, 1) := by decide +kernel
theorem dX10_at_8 : decode cX10_at 8 = .ok (.imul, 1) := by decide +kernel
theorem dX10_at_9 : decode cX10_at 9 = .ok (.iadd, 1) := by decide +kernel
theorem dX10_at_10 : decode cX10_at 10 = .ok (.ireturn, 1) := by decide +kernel
theorem dX10_hasSigned_0 : decode cX10_hasSigned 0 = .ok (.aload_n 0, 1) := by decide +kernel
theorem dX10_hasSigned_1 : decode cX10_hasSigned 1 = .ok (.iload_n 1, 1) := by decide +kernel
theorem dX10_hasSigned_2 : decode cX10_hasSigned 2 = .ok (.iload_n 2, 1) := by decide +kernel
theorem dX10_hasSigned_3 : decode cX10_hasSigned 3 = .ok (.invokevirtual 41, 3) := by decide +kernel
theorem dX10_hasSigned_6 : decode cX10_hasSigned 6 = .ok (.iconst (-1), 1) := by decide +kernel
theorem dX10_hasSigned_7 : decode cX10_hasSigned 7 = .ok (.if_icmp .eq 30, 3) := by decide +kernel
theorem dX10_hasSigned_10 : decode cX10_hasSigned 10 = .ok (.iload_n 2, 1) := by decide +kernel
theorem dX10_hasSigned_11 : decode cX10_hasSigned 11 = .ok (.iconst 2, 1) := by decide +kernel
theorem dX10_hasSigned_12 : decode cX10_hasSigned 12 = .ok (.if_icmp .lt 21, 3) := by decide +kernel
theorem dX10_hasSigned_15 : decode cX10_hasSigned 15 = .ok (.aload_n 0, 1) := by decide +kernel
theorem dX10_hasSigned_16 : decode cX10_hasSigned 16 = .ok (.getfield 7, 3) := by decide +kernel
theorem dX10_hasSigned_19 : decode cX10_hasSigned 19 = .ok (.iload_n 1, 1) := by decide +kernel
theorem dX10_hasSigned_20 : decode cX10_hasSigned 20 = .ok (.iload_n 2, 1) := by decide +kernel
theorem dX10_hasSigned_21 : decode cX10_hasSigned 21 = .ok (.iconst 2, 1) := by decide +kernel
theorem dX10_hasSigned_22 : decode cX10_hasSigned 22 = .ok (.isub, 1) := by decide +kernel
theorem dX10_hasSigned_23 : decode cX10_hasSigned 23 = .ok (.invokestatic 37, 3) := by decide +kernel
theorem dX10_hasSigned_26 : decode cX10_hasSigned 26 = .ok (.bipush 11, 2) := by decide +kernel
theorem dX10_hasSigned_28 : decode cX10_hasSigned 28 = .ok (.iadd, 1) := by decide +kernel
theorem dX10_hasSigned_29 : decode cX10_hasSigned 29 = .ok (.iaload, 1) := by decide +kernel
theorem dX10_hasSigned_30 : decode cX10_hasSigned 30 = .ok (.ifCond .ne 7, 3) := by decide +kernel
theorem dX10_hasSigned_33 : decode cX10_hasSigned 33 = .ok (.iconst 1, 1) := by decide +kernel
theorem dX10_hasSigned_34 : decode cX10_hasSigned 34 = .ok (.goto 4, 3) := by decide +kernel
theorem dX10_hasSigned_37 : decode cX10_hasSigned 37 = .ok (.iconst 0, 1) := by decide +kernel
theorem dX10_hasSigned_38 : decode cX10_hasSigned 38 = .ok (.ireturn, 1) := by decide +kernel
theorem dX10_hasTitle_0 : decode cX10_hasTitle 0 = .ok (.aload_n 0, 1) := by decide +kernel
theorem dX10_hasTitle_1 : decode cX10_hasTitle 1 = .ok (.getfield 7, 3) := by decide +kernel
theorem dX10_hasTitle_4 : decode cX10_hasTitle 4 = .ok (.iload_n 1, 1) := by decide +kernel
theorem dX10_hasTitle_5 : decode cX10_hasTitle 5 = .ok (.bipush 11, 2) := by decide +kernel
theorem dX10_hasTitle_7 : decode cX10_hasTitle 7 = .ok (.iadd, 1) := by decide +kernel
theorem dX10_hasTitle_8 : decode cX10_hasTitle 8 = .ok (.iaload, 1) := by decide +kernel
theorem dX10_hasTitle_9 : decode cX10_hasTitle 9 = .ok (.iconst 1, 1) := by decide +kernel
theorem dX10_hasTitle_10 : decode cX10_hasTitle 10 = .ok (.if_icmp .eq 24, 3) := by decide +kernel
theorem dX10_hasTitle_13 : decode cX10_hasTitle 13 = .ok (.aload_n 0, 1) := by decide +kernel
theorem dX10_hasTitle_14 : decode cX10_hasTitle 14 = .ok (.getfield 7, 3) := by decide +kernel
theorem dX10_hasTitle_17 : decode cX10_hasTitle 17 = .ok (.iload_n 1, 1) := by decide +kernel
theorem dX10_hasTitle_18 : decode cX10_hasTitle 18 = .ok (.bipush 12, 2) := by decide +kernel
theorem dX10_hasTitle_20 : decode cX10_hasTitle 20 = .ok (.iadd, 1) := by decide +kernel
theorem dX10_hasTitle_21 : decode cX10_hasTitle 21 = .ok (.iaload, 1) := by decide +kernel
theorem dX10_hasTitle_22 : decode cX10_hasTitle 22 = .ok (.aload_n 0, 1) := by decide +kernel
theorem dX10_hasTitle_23 : decode cX10_hasTitle 23 = .ok (.getfield 7, 3) := by decide +kernel
theorem dX10_hasTitle_26 : decode cX10_hasTitle 26 = .ok (.iload_n 1, 1) := by decide +kernel
theorem dX10_hasTitle_27 : decode cX10_hasTitle 27 = .ok (.bipush 7, 2) := by decide +kernel
theorem dX10_hasTitle_29 : decode cX10_hasTitle 29 = .ok (.iadd, 1) := by decide +kernel
theorem dX10_hasTitle_30 : decode cX10_hasTitle 30 = .ok (.iaload, 1) := by decide +kernel
theorem dX10_hasTitle_31 : decode cX10_hasTitle 31 = .ok (.if_icmp .ne 7, 3) := by decide +kernel
theorem dX10_hasTitle_34 : decode cX10_hasTitle 34 = .ok (.iconst 1, 1) := by decide +kernel
theorem dX10_hasTitle_35 : decode cX10_hasTitle 35 = .ok (.goto 4, 3) := by decide +kernel
theorem dX10_hasTitle_38 : decode cX10_hasTitle 38 = .ok (.iconst 0, 1) := by decide +kernel
theorem dX10_hasTitle_39 : decode cX10_hasTitle 39 = .ok (.istore_n 2, 1) := by decide +kernel
theorem dX10_hasTitle_40 : decode cX10_hasTitle 40 = .ok (.aload_n 0, 1) := by decide +kernel
theorem dX10_hasTitle_41 : decode cX10_hasTitle 41 = .ok (.getfield 7, 3) := by decide +kernel
theorem dX10_hasTitle_44 : decode cX10_hasTitle 44 = .ok (.iload_n 1, 1) := by decide +kernel
theorem dX10_hasTitle_45 : decode cX10_hasTitle 45 = .ok (.bipush 16, 2) := by decide +kernel
theorem dX10_hasTitle_47 : decode cX10_hasTitle 47 = .ok (.iadd, 1) := by decide +kernel
theorem dX10_hasTitle_48 : decode cX10_hasTitle 48 = .ok (.iaload, 1) := by decide +kernel
theorem dX10_hasTitle_49 : decode cX10_hasTitle 49 = .ok (.iconst (-1), 1) := by decide +kernel
theorem dX10_hasTitle_50 : decode cX10_hasTitle 50 = .ok (.if_icmp .ne 23, 3) := by decide +kernel
theorem dX10_hasTitle_53 : decode cX10_hasTitle 53 = .ok (.aload_n 0, 1) := by decide +kernel
theorem dX10_hasTitle_54 : decode cX10_hasTitle 54 = .ok (.getfield 7, 3) := by decide +kernel
theorem dX10_hasTitle_57 : decode cX10_hasTitle 57 = .ok (.iload_n 1, 1) := by decide +kernel
theorem dX10_hasTitle_58 : decode cX10_hasTitle 58 = .ok (.bipush 15, 2) := by decide +kernel
theorem dX10_hasTitle_60 : decode cX10_hasTitle 60 = .ok (.iadd, 1) := by decide +kernel
theorem dX10_hasTitle_61 : decode cX10_hasTitle 61 = .ok (.iaload, 1) := by decide +kernel
theorem dX10_hasTitle_62 : decode cX10_hasTitle 62 = .ok (.ifCond .ne 11, 3) := by decide +kernel
theorem dX10_hasTitle_65 : decode cX10_hasTitle 65 = .ok (.iload_n 2, 1) := by decide +kernel
theorem dX10_hasTitle_66 : decode cX10_hasTitle 66 = .ok (.ifCond .eq 7, 3) := by decide +kernel
theorem dX10_hasTitle_69 : decode cX10_hasTitle 69 = .ok (.iconst 1, 1) := by decide +kernel
theorem dX10_hasTitle_70 : decode cX10_hasTitle 70 = .ok (.goto 4, 3) := by decide +kernel
theorem dX10_hasTitle_73 : decode cX10_hasTitle 73 = .ok (.iconst 0, 1) := by decide +kernel
theorem dX10_hasTitle_74 : decode cX10_hasTitle 74 = .ok (.ireturn, 1) := by decide +kernel
theorem dX10_isBill_0 : decode cX10_isBill 0 = .ok (.iload_n 1, 1) := by decide +kernel
theorem dX10_isBill_1 : decode cX10_isBill 1 = .ok (.iconst 0, 1) := by decide +kernel
theorem dX10_isBill_2 : decode cX10_isBill 2 = .ok (.aload_n 0, 1) := by decide +kernel
theorem dX10_isBill_3 : decode cX10_isBill 3 = .ok (.getfield 7, 3) := by decide +kernel
theorem dX10_isBill_6 : decode cX10_isBill 6 = .ok (.iconst 1, 1) := by decide +kernel
theorem dX10_isBill_7 : decode cX10_isBill 7 = .ok (.iaload, 1) := by decide +kernel
theorem dX10_isBill_8 : decode cX10_isBill 8 = .ok (.iconst 1, 1) := by decide +kernel
theorem dX10_isBill_9 : decode cX10_isBill 9 = .ok (.isub, 1) := by decide +kernel
theorem dX10_isBill_10 : decode cX10_isBill 10 = .ok (.invokestatic 33, 3) := by decide +kernel
theorem dX10_isBill_13 : decode cX10_isBill 13 = .ok (.ireturn, 1) := by decide +kernel
theorem dX10_isIn_0 : decode cX10_isIn 0 = .ok (.iload_n 0, 1) := by decide +kernel
theorem dX10_isIn_1 : decode cX10_isIn 1 = .ok (.iload_n 1, 1) := by decide +kernel
theorem dX10_isIn_2 : decode cX10_isIn 2 = .ok (.if_icmp .lt 12, 3) := by decide +kernel
theorem dX10_isIn_5 : decode cX10_isIn 5 = .ok (.iload_n 0, 1) := by decide +kernel
theorem dX10_isIn_6 : decode cX10_isIn 6 = .ok (.iload_n 2, 1) := by decide +kernel
theorem dX10_isIn_7 : decode cX10_isIn 7 = .ok (.if_icmp .gt 7, 3) := by decide +kernel
theorem dX10_isIn_10 : decode cX10_isIn 10 = .ok (.iconst 1, 1) := by decide +kernel
theorem dX10_isIn_11 : decode cX10_isIn 11 = .ok (.goto 4, 3) := by decide +kernel
theorem dX10_isIn_14 : decode cX10_isIn 14 = .ok (.iconst 0, 1) := by decide +kernel
theorem dX10_isIn_15 : decode cX10_isIn 15 = .ok (.ireturn, 1) := by decide +kernel
theorem dX10_isParty_0 : decode cX10_isParty 0 = .ok (.iload_n 2, 1) := by decide +kernel
theorem dX10_isParty_1 : decode cX10_isParty 1 = .ok (.iconst 0, 1) := by decide +kernel
theorem dX10_isParty_2 : decode cX10_isParty 2 = .ok (.iconst 1, 1) := by decide +kernel
theorem dX10_isParty_3 : decode cX10_isParty 3 = .ok (.aload_n 0, 1) := by decide +kernel
theorem dX10_isParty_4 : decode cX10_isParty 4 = .ok (.getfield 7, 3) := by decide +kernel
theorem dX10_isParty_7 : decode cX10_isParty 7 = .ok (.iload_n 1, 1) := by decide +kernel
theorem dX10_isParty_8 : decode cX10_isParty 8 = .ok (.bipush 8, 2) := by decide +kernel
theorem dX10_isParty_10 : decode cX10_isParty 10 = .ok (.iadd, 1) := by decide +kernel
theorem dX10_isParty_11 : decode cX10_isParty 11 = .ok (.iaload, 1) := by decide +kernel
theorem dX10_isParty_12 : decode cX10_isParty 12 = .ok (.iadd, 1) := by decide +kernel
theorem dX10_isParty_13 : decode cX10_isParty 13 = .ok (.invokestatic 33, 3) := by decide +kernel
theorem dX10_isParty_16 : decode cX10_isParty 16 = .ok (.ireturn, 1) := by decide +kernel
theorem dX10_isPerson_0 : decode cX10_isPerson 0 = .ok (.iload_n 0, 1) := by decide +kernel
theorem dX10_isPerson_1 : decode cX10_isPerson 1 = .ok (.iconst 0, 1) := by decide +kernel
theorem dX10_isPerson_2 : decode cX10_isPerson 2 = .ok (.bipush 7, 2) := by decide +kernel
theorem dX10_isPerson_4 : decode cX10_isPerson 4 = .ok (.invokestatic 33, 3) := by decide +kernel
theorem dX10_isPerson_7 : decode cX10_isPerson 7 = .ok (.ireturn, 1) := by decide +kernel
theorem dX10_partyAt_0 : decode cX10_partyAt 0 = .ok (.iload_n 0, 1) := by decide +kernel
theorem dX10_partyAt_1 : decode cX10_partyAt 1 = .ok (.sipush 184, 3) := by decide +kernel
theorem dX10_partyAt_4 : decode cX10_partyAt 4 = .ok (.iadd, 1) := by decide +kernel
theorem dX10_partyAt_5 : decode cX10_partyAt 5 = .ok (.bipush 6, 2) := by decide +kernel
theorem dX10_partyAt_7 : decode cX10_partyAt 7 = .ok (.iload_n 1, 1) := by decide +kernel
theorem dX10_partyAt_8 : decode cX10_partyAt 8 = .ok (.imul, 1) := by decide +kernel
theorem dX10_partyAt_9 : decode cX10_partyAt 9 = .ok (.iadd, 1) := by decide +kernel
theorem dX10_partyAt_10 : decode cX10_partyAt 10 = .ok (.ireturn, 1) := by decide +kernel
theorem dX10_stepAt_0 : decode cX10_stepAt 0 = .ok (.iload_n 0, 1) := by decide +kernel
theorem dX10_stepAt_1 : decode cX10_stepAt 1 = .ok (.bipush 40, 2) := by decide +kernel
theorem dX10_stepAt_3 : decode cX10_stepAt 3 = .ok (.iadd, 1) := by decide +kernel
theorem dX10_stepAt_4 : decode cX10_stepAt 4 = .ok (.bipush 12, 2) := by decide +kernel
theorem dX10_stepAt_6 : decode cX10_stepAt 6 = .ok (.iload_n 1, 1) := by decide +kernel
theorem dX10_stepAt_7 : decode cX10_stepAt 7 = .ok (.imul, 1) := by decide +kernel
theorem dX10_stepAt_8 : decode cX10_stepAt 8 = .ok (.iadd, 1) := by decide +kernel
theorem dX10_stepAt_9 : decode cX10_stepAt 9 = .ok (.ireturn, 1) := by decide +kernel
theorem dX10_who_0 : decode cX10_who 0 = .ok (.iload_n 2, 1) := by decide +kernel
theorem dX10_who_1 : decode cX10_who 1 = .ok (.ifCond .ne 29, 3) := by decide +kernel
theorem dX10_who_4 : decode cX10_who 4 = .ok (.aload_n 0, 1) := by decide +kernel
theorem dX10_who_5 : decode cX10_who 5 = .ok (.getfield 7, 3) := by decide +kernel
theorem dX10_who_8 : decode cX10_who 8 = .ok (.iload_n 1, 1) := by decide +kernel
theorem dX10_who_9 : decode cX10_who 9 = .ok (.bipush 6, 2) := by decide +kernel
theorem dX10_who_11 : decode cX10_who 11 = .ok (.iadd, 1) := by decide +kernel
theorem dX10_who_12 : decode cX10_who 12 = .ok (.iaload, 1) := by decide +kernel
theorem dX10_who_13 : decode cX10_who 13 = .ok (.iconst 1, 1) := by decide +kernel
theorem dX10_who_14 : decode cX10_who 14 = .ok (.if_icmp .ne 14, 3) := by decide +kernel
theorem dX10_who_17 : decode cX10_who 17 = .ok (.aload_n 0, 1) := by decide +kernel
theorem dX10_who_18 : decode cX10_who 18 = .ok (.getfield 7, 3) := by decide +kernel
theorem dX10_who_21 : decode cX10_who 21 = .ok (.iload_n 1, 1) := by decide +kernel
theorem dX10_who_22 : decode cX10_who 22 = .ok (.iconst 1, 1) := by decide +kernel
theorem dX10_who_23 : decode cX10_who 23 = .ok (.iadd, 1) := by decide +kernel
theorem dX10_who_24 : decode cX10_who 24 = .ok (.iaload, 1) := by decide +kernel
theorem dX10_who_25 : decode cX10_who 25 = .ok (.goto 4, 3) := by decide +kernel
theorem dX10_who_28 : decode cX10_who 28 = .ok (.iconst (-1), 1) := by decide +kernel
theorem dX10_who_29 : decode cX10_who 29 = .ok (.ireturn, 1) := by decide +kernel
theorem dX10_who_30 : decode cX10_who 30 = .ok (.iload_n 2, 1) := by decide +kernel
theorem dX10_who_31 : decode cX10_who 31 = .ok (.iconst 1, 1) := by decide +kernel
theorem dX10_who_32 : decode cX10_who 32 = .ok (.if_icmp .ne 12, 3) := by decide +kernel
theorem dX10_who_35 : decode cX10_who 35 = .ok (.aload_n 0, 1) := by decide +kernel
theorem dX10_who_36 : decode cX10_who 36 = .ok (.getfield 7, 3) := by decide +kernel
theorem dX10_who_39 : decode cX10_who 39 = .ok (.iload_n 1, 1) := by decide +kernel
theorem dX10_who_40 : decode cX10_who 40 = .ok (.iconst 0, 1) := by decide +kernel
theorem dX10_who_41 : decode cX10_who 41 = .ok (.iadd, 1) := by decide +kernel
theorem dX10_who_42 : decode cX10_who 42 = .ok (.iaload, 1) := by decide +kernel
theorem dX10_who_43 : decode cX10_who 43 = .ok (.ireturn, 1) := by decide +kernel
theorem dX10_who_44 : decode cX10_who 44 = .ok (.aload_n 0, 1) := by decide +kernel
theorem dX10_who_45 : decode cX10_who 45 = .ok (.getfield 7, 3) := by decide +kernel
theorem dX10_who_48 : decode cX10_who 48 = .ok (.iload_n 1, 1) := by decide +kernel
theorem dX10_who_49 : decode cX10_who 49 = .ok (.iload_n 2, 1) := by decide +kernel
theorem dX10_who_50 : decode cX10_who 50 = .ok (.iconst 2, 1) := by decide +kernel
theorem dX10_who_51 : decode cX10_who 51 = .ok (.isub, 1) := by decide +kernel
theorem dX10_who_52 : decode cX10_who 52 = .ok (.invokestatic 37, 3) := by decide +kernel
theorem dX10_who_55 : decode cX10_who 55 = .ok (.iconst 0, 1) := by decide +kernel
theorem dX10_who_56 : decode cX10_who 56 = .ok (.iadd, 1) := by decide +kernel
theorem dX10_who_57 : decode cX10_who 57 = .ok (.iaload, 1) := by decide +kernel
theorem dX10_who_58 : decode cX10_who 58 = .ok (.iconst 3, 1) := by decide +kernel
theorem dX10_who_59 : decode cX10_who 59 = .ok (.if_icmp .ge 20, 3) := by decide +kernel
theorem dX10_who_62 : decode cX10_who 62 = .ok (.aload_n 0, 1) := by decide +kernel
theorem dX10_who_63 : decode cX10_who 63 = .ok (.getfield 7, 3) := by decide +kernel
theorem dX10_who_66 : decode cX10_who 66 = .ok (.iload_n 1, 1) := by decide +kernel
theorem dX10_who_67 : decode cX10_who 67 = .ok (.iload_n 2, 1) := by decide +kernel
theorem dX10_who_68 : decode cX10_who 68 = .ok (.iconst 2, 1) := by decide +kernel
theorem dX10_who_69 : decode cX10_who 69 = .ok (.isub, 1) := by decide +kernel
theorem dX10_who_70 : decode cX10_who 70 = .ok (.invokestatic 37, 3) := by decide +kernel
theorem dX10_who_73 : decode cX10_who 73 = .ok (.iconst 2, 1) := by decide +kernel
theorem dX10_who_74 : decode cX10_who 74 = .ok (.iadd, 1) := by decide +kernel
theorem dX10_who_75 : decode cX10_who 75 = .ok (.iaload, 1) := by decide +kernel
theorem dX10_who_76 : decode cX10_who 76 = .ok (.goto 4, 3) := by decide +kernel
theorem dX10_who_79 : decode cX10_who 79 = .ok (.iconst (-1), 1) := by decide +kernel
theorem dX10_who_80 : decode cX10_who 80 = .ok (.ireturn, 1) := by decide +kernel
