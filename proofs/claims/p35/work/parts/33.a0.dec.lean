theorem dX10_cause_0 : decode cX10_cause 0 = .ok (.iload_n 1, 1) := by decide +kernel
theorem dX10_cause_1 : decode cX10_cause 1 = .ok (.iload_n 2, 1) := by decide +kernel
theorem dX10_cause_2 : decode cX10_cause 2 = .ok (.invokestatic 56, 3) := by decide +kernel
theorem dX10_cause_5 : decode cX10_cause 5 = .ok (.istore 4, 2) := by decide +kernel
theorem dX10_cause_7 : decode cX10_cause 7 = .ok (.iload_n 3, 1) := by decide +kernel
theorem dX10_cause_8 : decode cX10_cause 8 = .ok (.iconst 1, 1) := by decide +kernel
theorem dX10_cause_9 : decode cX10_cause 9 = .ok (.if_icmp .ne 24, 3) := by decide +kernel
theorem dX10_cause_12 : decode cX10_cause 12 = .ok (.aload_n 0, 1) := by decide +kernel
theorem dX10_cause_13 : decode cX10_cause 13 = .ok (.getfield 7, 3) := by decide +kernel
theorem dX10_cause_16 : decode cX10_cause 16 = .ok (.iload_n 1, 1) := by decide +kernel
theorem dX10_cause_17 : decode cX10_cause 17 = .ok (.bipush 16, 2) := by decide +kernel
theorem dX10_cause_19 : decode cX10_cause 19 = .ok (.iadd, 1) := by decide +kernel
theorem dX10_cause_20 : decode cX10_cause 20 = .ok (.iaload, 1) := by decide +kernel
theorem dX10_cause_21 : decode cX10_cause 21 = .ok (.iconst (-1), 1) := by decide +kernel
theorem dX10_cause_22 : decode cX10_cause 22 = .ok (.if_icmp .eq 8, 3) := by decide +kernel
theorem dX10_cause_25 : decode cX10_cause 25 = .ok (.bipush 11, 2) := by decide +kernel
theorem dX10_cause_27 : decode cX10_cause 27 = .ok (.goto 5, 3) := by decide +kernel
theorem dX10_cause_30 : decode cX10_cause 30 = .ok (.bipush 14, 2) := by decide +kernel
theorem dX10_cause_32 : decode cX10_cause 32 = .ok (.ireturn, 1) := by decide +kernel
theorem dX10_cause_33 : decode cX10_cause 33 = .ok (.iload_n 3, 1) := by decide +kernel
theorem dX10_cause_34 : decode cX10_cause 34 = .ok (.iconst 3, 1) := by decide +kernel
theorem dX10_cause_35 : decode cX10_cause 35 = .ok (.if_icmp .ne 20, 3) := by decide +kernel
theorem dX10_cause_38 : decode cX10_cause 38 = .ok (.aload_n 0, 1) := by decide +kernel
theorem dX10_cause_39 : decode cX10_cause 39 = .ok (.iload_n 1, 1) := by decide +kernel
theorem dX10_cause_40 : decode cX10_cause 40 = .ok (.iload_n 2, 1) := by decide +kernel
theorem dX10_cause_41 : decode cX10_cause 41 = .ok (.invokevirtual 41, 3) := by decide +kernel
theorem dX10_cause_44 : decode cX10_cause 44 = .ok (.iconst (-1), 1) := by decide +kernel
theorem dX10_cause_45 : decode cX10_cause 45 = .ok (.if_icmp .ne 7, 3) := by decide +kernel
theorem dX10_cause_48 : decode cX10_cause 48 = .ok (.iconst 0, 1) := by decide +kernel
theorem dX10_cause_49 : decode cX10_cause 49 = .ok (.goto 5, 3) := by decide +kernel
theorem dX10_cause_52 : decode cX10_cause 52 = .ok (.bipush 12, 2) := by decide +kernel
theorem dX10_cause_54 : decode cX10_cause 54 = .ok (.ireturn, 1) := by decide +kernel
theorem dX10_cause_55 : decode cX10_cause 55 = .ok (.iload_n 3, 1) := by decide +kernel
theorem dX10_cause_56 : decode cX10_cause 56 = .ok (.iconst 5, 1) := by decide +kernel
theorem dX10_cause_57 : decode cX10_cause 57 = .ok (.if_icmp .ne 13, 3) := by decide +kernel
theorem dX10_cause_60 : decode cX10_cause 60 = .ok (.aload_n 0, 1) := by decide +kernel
theorem dX10_cause_61 : decode cX10_cause 61 = .ok (.getfield 7, 3) := by decide +kernel
theorem dX10_cause_64 : decode cX10_cause 64 = .ok (.iload 4, 2) := by decide +kernel
theorem dX10_cause_66 : decode cX10_cause 66 = .ok (.iconst 1, 1) := by decide +kernel
theorem dX10_cause_67 : decode cX10_cause 67 = .ok (.iadd, 1) := by decide +kernel
theorem dX10_cause_68 : decode cX10_cause 68 = .ok (.iaload, 1) := by decide +kernel
theorem dX10_cause_69 : decode cX10_cause 69 = .ok (.ireturn, 1) := by decide +kernel
theorem dX10_cause_70 : decode cX10_cause 70 = .ok (.iload_n 3, 1) := by decide +kernel
theorem dX10_cause_71 : decode cX10_cause 71 = .ok (.bipush 8, 2) := by decide +kernel
theorem dX10_cause_73 : decode cX10_cause 73 = .ok (.if_icmp .ne 25, 3) := by decide +kernel
theorem dX10_cause_76 : decode cX10_cause 76 = .ok (.aload_n 0, 1) := by decide +kernel
theorem dX10_cause_77 : decode cX10_cause 77 = .ok (.iconst 0, 1) := by decide +kernel
theorem dX10_cause_78 : decode cX10_cause 78 = .ok (.iload_n 1, 1) := by decide +kernel
theorem dX10_cause_79 : decode cX10_cause 79 = .ok (.invokevirtual 189, 3) := by decide +kernel
theorem dX10_cause_82 : decode cX10_cause 82 = .ok (.iload_n 2, 1) := by decide +kernel
theorem dX10_cause_83 : decode cX10_cause 83 = .ok (.ishr, 1) := by decide +kernel
theorem dX10_cause_84 : decode cX10_cause 84 = .ok (.iconst 1, 1) := by decide +kernel
theorem dX10_cause_85 : decode cX10_cause 85 = .ok (.iand, 1) := by decide +kernel
theorem dX10_cause_86 : decode cX10_cause 86 = .ok (.iconst 1, 1) := by decide +kernel
theorem dX10_cause_87 : decode cX10_cause 87 = .ok (.if_icmp .ne 8, 3) := by decide +kernel
theorem dX10_cause_90 : decode cX10_cause 90 = .ok (.bipush 17, 2) := by decide +kernel
theorem dX10_cause_92 : decode cX10_cause 92 = .ok (.goto 5, 3) := by decide +kernel
theorem dX10_cause_95 : decode cX10_cause 95 = .ok (.bipush 18, 2) := by decide +kernel
theorem dX10_cause_97 : decode cX10_cause 97 = .ok (.ireturn, 1) := by decide +kernel
theorem dX10_cause_98 : decode cX10_cause 98 = .ok (.iload_n 3, 1) := by decide +kernel
theorem dX10_cause_99 : decode cX10_cause 99 = .ok (.bipush 9, 2) := by decide +kernel
theorem dX10_cause_101 : decode cX10_cause 101 = .ok (.if_icmp .ne 28, 3) := by decide +kernel
theorem dX10_cause_104 : decode cX10_cause 104 = .ok (.aload_n 0, 1) := by decide +kernel
theorem dX10_cause_105 : decode cX10_cause 105 = .ok (.getfield 7, 3) := by decide +kernel
theorem dX10_cause_108 : decode cX10_cause 108 = .ok (.iload 4, 2) := by decide +kernel
theorem dX10_cause_110 : decode cX10_cause 110 = .ok (.iconst 3, 1) := by decide +kernel
theorem dX10_cause_111 : decode cX10_cause 111 = .ok (.iadd, 1) := by decide +kernel
theorem dX10_cause_112 : decode cX10_cause 112 = .ok (.iaload, 1) := by decide +kernel
theorem dX10_cause_113 : decode cX10_cause 113 = .ok (.iconst 1, 1) := by decide +kernel
theorem dX10_cause_114 : decode cX10_cause 114 = .ok (.iand, 1) := by decide +kernel
theorem dX10_cause_115 : decode cX10_cause 115 = .ok (.iconst 1, 1) := by decide +kernel
theorem dX10_cause_116 : decode cX10_cause 116 = .ok (.if_icmp .ne 8, 3) := by decide +kernel
theorem dX10_cause_119 : decode cX10_cause 119 = .ok (.bipush 19, 2) := by decide +kernel
theorem dX10_cause_121 : decode cX10_cause 121 = .ok (.goto 9, 3) := by decide +kernel
theorem dX10_cause_124 : decode cX10_cause 124 = .ok (.bipush 20, 2) := by decide +kernel
theorem dX10_cause_126 : decode cX10_cause 126 = .ok (.goto 4, 3) := by decide +kernel
theorem dX10_cause_129 : decode cX10_cause 129 = .ok (.iconst 0, 1) := by decide +kernel
theorem dX10_cause_130 : decode cX10_cause 130 = .ok (.ireturn, 1) := by decide +kernel
theorem dX10_hasCash_0 : decode cX10_hasCash 0 = .ok (.aload_n 0, 1) := by decide +kernel
theorem dX10_hasCash_1 : decode cX10_hasCash 1 = .ok (.getfield 7, 3) := by decide +kernel
theorem dX10_hasCash_4 : decode cX10_hasCash 4 = .ok (.iload_n 1, 1) := by decide +kernel
theorem dX10_hasCash_5 : decode cX10_hasCash 5 = .ok (.bipush 6, 2) := by decide +kernel
theorem dX10_hasCash_7 : decode cX10_hasCash 7 = .ok (.iadd, 1) := by decide +kernel
theorem dX10_hasCash_8 : decode cX10_hasCash 8 = .ok (.aload_n 0, 1) := by decide +kernel
theorem dX10_hasCash_9 : decode cX10_hasCash 9 = .ok (.iload_n 2, 1) := by decide +kernel
theorem dX10_hasCash_10 : decode cX10_hasCash 10 = .ok (.iload_n 3, 1) := by decide +kernel
theorem dX10_hasCash_11 : decode cX10_hasCash 11 = .ok (.invokevirtual 41, 3) := by decide +kernel
theorem dX10_hasCash_14 : decode cX10_hasCash 14 = .ok (.iadd, 1) := by decide +kernel
theorem dX10_hasCash_15 : decode cX10_hasCash 15 = .ok (.iaload, 1) := by decide +kernel
theorem dX10_hasCash_16 : decode cX10_hasCash 16 = .ok (.aload_n 0, 1) := by decide +kernel
theorem dX10_hasCash_17 : decode cX10_hasCash 17 = .ok (.getfield 7, 3) := by decide +kernel
theorem dX10_hasCash_20 : decode cX10_hasCash 20 = .ok (.iload_n 2, 1) := by decide +kernel
theorem dX10_hasCash_21 : decode cX10_hasCash 21 = .ok (.iconst 3, 1) := by decide +kernel
theorem dX10_hasCash_22 : decode cX10_hasCash 22 = .ok (.iadd, 1) := by decide +kernel
theorem dX10_hasCash_23 : decode cX10_hasCash 23 = .ok (.iaload, 1) := by decide +kernel
theorem dX10_hasCash_24 : decode cX10_hasCash 24 = .ok (.if_icmp .lt 7, 3) := by decide +kernel
theorem dX10_hasCash_27 : decode cX10_hasCash 27 = .ok (.iconst 1, 1) := by decide +kernel
theorem dX10_hasCash_28 : decode cX10_hasCash 28 = .ok (.goto 4, 3) := by decide +kernel
theorem dX10_hasCash_31 : decode cX10_hasCash 31 = .ok (.iconst 0, 1) := by decide +kernel
theorem dX10_hasCash_32 : decode cX10_hasCash 32 = .ok (.ireturn, 1) := by decide +kernel
theorem dX10_liableBits_0 : decode cX10_liableBits 0 = .ok (.iconst 0, 1) := by decide +kernel
theorem dX10_liableBits_1 : decode cX10_liableBits 1 = .ok (.istore_n 3, 1) := by decide +kernel
theorem dX10_liableBits_2 : decode cX10_liableBits 2 = .ok (.iconst 0, 1) := by decide +kernel
theorem dX10_liableBits_3 : decode cX10_liableBits 3 = .ok (.istore 4, 2) := by decide +kernel
theorem dX10_liableBits_5 : decode cX10_liableBits 5 = .ok (.iload 4, 2) := by decide +kernel
theorem dX10_liableBits_7 : decode cX10_liableBits 7 = .ok (.iconst 1, 1) := by decide +kernel
theorem dX10_liableBits_8 : decode cX10_liableBits 8 = .ok (.aload_n 0, 1) := by decide +kernel
theorem dX10_liableBits_9 : decode cX10_liableBits 9 = .ok (.getfield 7, 3) := by decide +kernel
theorem dX10_liableBits_12 : decode cX10_liableBits 12 = .ok (.iload_n 2, 1) := by decide +kernel
theorem dX10_liableBits_13 : decode cX10_liableBits 13 = .ok (.bipush 8, 2) := by decide +kernel
theorem dX10_liableBits_15 : decode cX10_liableBits 15 = .ok (.iadd, 1) := by decide +kernel
theorem dX10_liableBits_16 : decode cX10_liableBits 16 = .ok (.iaload, 1) := by decide +kernel
theorem dX10_liableBits_17 : decode cX10_liableBits 17 = .ok (.iadd, 1) := by decide +kernel
theorem dX10_liableBits_18 : decode cX10_liableBits 18 = .ok (.if_icmp .gt 31, 3) := by decide +kernel
theorem dX10_liableBits_21 : decode cX10_liableBits 21 = .ok (.iload_n 3, 1) := by decide +kernel
theorem dX10_liableBits_22 : decode cX10_liableBits 22 = .ok (.aload_n 0, 1) := by decide +kernel
theorem dX10_liableBits_23 : decode cX10_liableBits 23 = .ok (.iload_n 1, 1) := by decide +kernel
theorem dX10_liableBits_24 : decode cX10_liableBits 24 = .ok (.iload_n 2, 1) := by decide +kernel
theorem dX10_liableBits_25 : decode cX10_liableBits 25 = .ok (.iload 4, 2) := by decide +kernel
theorem dX10_liableBits_27 : decode cX10_liableBits 27 = .ok (.invokevirtual 81, 3) := by decide +kernel
theorem dX10_liableBits_30 : decode cX10_liableBits 30 = .ok (.ifCond .ne 10, 3) := by decide +kernel
theorem dX10_liableBits_33 : decode cX10_liableBits 33 = .ok (.iconst 1, 1) := by decide +kernel
theorem dX10_liableBits_34 : decode cX10_liableBits 34 = .ok (.iload 4, 2) := by decide +kernel
theorem dX10_liableBits_36 : decode cX10_liableBits 36 = .ok (.ishl, 1) := by decide +kernel
theorem dX10_liableBits_37 : decode cX10_liableBits 37 = .ok (.goto 4, 3) := by decide +kernel
theorem dX10_liableBits_40 : decode cX10_liableBits 40 = .ok (.iconst 0, 1) := by decide +kernel
theorem dX10_liableBits_41 : decode cX10_liableBits 41 = .ok (.ior, 1) := by decide +kernel
theorem dX10_liableBits_42 : decode cX10_liableBits 42 = .ok (.istore_n 3, 1) := by decide +kernel
theorem dX10_liableBits_43 : decode cX10_liableBits 43 = .ok (.iinc 4 1, 3) := by decide +kernel
theorem dX10_liableBits_46 : decode cX10_liableBits 46 = .ok (.goto (-41), 3) := by decide +kernel
theorem dX10_liableBits_49 : decode cX10_liableBits 49 = .ok (.iload_n 3, 1) := by decide +kernel
theorem dX10_liableBits_50 : decode cX10_liableBits 50 = .ok (.ireturn, 1) := by decide +kernel
theorem dX10_payer_0 : decode cX10_payer 0 = .ok (.iconst 1, 1) := by decide +kernel
theorem dX10_payer_1 : decode cX10_payer 1 = .ok (.aload_n 0, 1) := by decide +kernel
theorem dX10_payer_2 : decode cX10_payer 2 = .ok (.getfield 7, 3) := by decide +kernel
theorem dX10_payer_5 : decode cX10_payer 5 = .ok (.iload_n 2, 1) := by decide +kernel
theorem dX10_payer_6 : decode cX10_payer 6 = .ok (.bipush 8, 2) := by decide +kernel
theorem dX10_payer_8 : decode cX10_payer 8 = .ok (.iadd, 1) := by decide +kernel
theorem dX10_payer_9 : decode cX10_payer 9 = .ok (.iaload, 1) := by decide +kernel
theorem dX10_payer_10 : decode cX10_payer 10 = .ok (.iadd, 1) := by decide +kernel
theorem dX10_payer_11 : decode cX10_payer 11 = .ok (.istore_n 3, 1) := by decide +kernel
theorem dX10_payer_12 : decode cX10_payer 12 = .ok (.iload_n 3, 1) := by decide +kernel
theorem dX10_payer_13 : decode cX10_payer 13 = .ok (.ifCond .lt 31, 3) := by decide +kernel
theorem dX10_payer_16 : decode cX10_payer 16 = .ok (.aload_n 0, 1) := by decide +kernel
theorem dX10_payer_17 : decode cX10_payer 17 = .ok (.iload_n 1, 1) := by decide +kernel
theorem dX10_payer_18 : decode cX10_payer 18 = .ok (.iload_n 2, 1) := by decide +kernel
theorem dX10_payer_19 : decode cX10_payer 19 = .ok (.iload_n 3, 1) := by decide +kernel
theorem dX10_payer_20 : decode cX10_payer 20 = .ok (.invokevirtual 81, 3) := by decide +kernel
theorem dX10_payer_23 : decode cX10_payer 23 = .ok (.ifCond .ne 15, 3) := by decide +kernel
theorem dX10_payer_26 : decode cX10_payer 26 = .ok (.aload_n 0, 1) := by decide +kernel
theorem dX10_payer_27 : decode cX10_payer 27 = .ok (.iload_n 1, 1) := by decide +kernel
theorem dX10_payer_28 : decode cX10_payer 28 = .ok (.iload_n 2, 1) := by decide +kernel
theorem dX10_payer_29 : decode cX10_payer 29 = .ok (.iload_n 3, 1) := by decide +kernel
theorem dX10_payer_30 : decode cX10_payer 30 = .ok (.invokevirtual 85, 3) := by decide +kernel
theorem dX10_payer_33 : decode cX10_payer 33 = .ok (.ifCond .eq 5, 3) := by decide +kernel
theorem dX10_payer_36 : decode cX10_payer 36 = .ok (.iload_n 3, 1) := by decide +kernel
theorem dX10_payer_37 : decode cX10_payer 37 = .ok (.ireturn, 1) := by decide +kernel
theorem dX10_payer_38 : decode cX10_payer 38 = .ok (.iinc 3 (-1), 3) := by decide +kernel
theorem dX10_payer_41 : decode cX10_payer 41 = .ok (.goto (-29), 3) := by decide +kernel
theorem dX10_payer_44 : decode cX10_payer 44 = .ok (.iconst (-1), 1) := by decide +kernel
theorem dX10_payer_45 : decode cX10_payer 45 = .ok (.ireturn, 1) := by decide +kernel
theorem dX10_reason_0 : decode cX10_reason 0 = .ok (.iload_n 2, 1) := by decide +kernel
theorem dX10_reason_1 : decode cX10_reason 1 = .ok (.iload_n 3, 1) := by decide +kernel
theorem dX10_reason_2 : decode cX10_reason 2 = .ok (.invokestatic 56, 3) := by decide +kernel
theorem dX10_reason_5 : decode cX10_reason 5 = .ok (.istore 4, 2) := by decide +kernel
theorem dX10_reason_7 : decode cX10_reason 7 = .ok (.aload_n 0, 1) := by decide +kernel
theorem dX10_reason_8 : decode cX10_reason 8 = .ok (.iload_n 2, 1) := by decide +kernel
theorem dX10_reason_9 : decode cX10_reason 9 = .ok (.invokevirtual 70, 3) := by decide +kernel
theorem dX10_reason_12 : decode cX10_reason 12 = .ok (.ifCond .ne 5, 3) := by decide +kernel
theorem dX10_reason_15 : decode cX10_reason 15 = .ok (.iconst 1, 1) := by decide +kernel
theorem dX10_reason_16 : decode cX10_reason 16 = .ok (.ireturn, 1) := by decide +kernel
theorem dX10_reason_17 : decode cX10_reason 17 = .ok (.aload_n 0, 1) := by decide +kernel
theorem dX10_reason_18 : decode cX10_reason 18 = .ok (.getfield 7, 3) := by decide +kernel
theorem dX10_reason_21 : decode cX10_reason 21 = .ok (.iload_n 2, 1) := by decide +kernel
theorem dX10_reason_22 : decode cX10_reason 22 = .ok (.bipush 10, 2) := by decide +kernel
theorem dX10_reason_24 : decode cX10_reason 24 = .ok (.iadd, 1) := by decide +kernel
theorem dX10_reason_25 : decode cX10_reason 25 = .ok (.iaload, 1) := by decide +kernel
theorem dX10_reason_26 : decode cX10_reason 26 = .ok (.iconst 1, 1) := by decide +kernel
theorem dX10_reason_27 : decode cX10_reason 27 = .ok (.if_icmp .ne 5, 3) := by decide +kernel
theorem dX10_reason_30 : decode cX10_reason 30 = .ok (.iconst 2, 1) := by decide +kernel
theorem dX10_reason_31 : decode cX10_reason 31 = .ok (.ireturn, 1) := by decide +kernel
theorem dX10_reason_32 : decode cX10_reason 32 = .ok (.aload_n 0, 1) := by decide +kernel
theorem dX10_reason_33 : decode cX10_reason 33 = .ok (.iload_n 2, 1) := by decide +kernel
theorem dX10_reason_34 : decode cX10_reason 34 = .ok (.iload_n 3, 1) := by decide +kernel
theorem dX10_reason_35 : decode cX10_reason 35 = .ok (.invokevirtual 66, 3) := by decide +kernel
theorem dX10_reason_38 : decode cX10_reason 38 = .ok (.ifCond .ne 5, 3) := by decide +kernel
theorem dX10_reason_41 : decode cX10_reason 41 = .ok (.iconst 3, 1) := by decide +kernel
theorem dX10_reason_42 : decode cX10_reason 42 = .ok (.ireturn, 1) := by decide +kernel
theorem dX10_reason_43 : decode cX10_reason 43 = .ok (.iload_n 3, 1) := by decide +kernel
theorem dX10_reason_44 : decode cX10_reason 44 = .ok (.aload_n 0, 1) := by decide +kernel
theorem dX10_reason_45 : decode cX10_reason 45 = .ok (.iload_n 2, 1) := by decide +kernel
theorem dX10_reason_46 : decode cX10_reason 46 = .ok (.invokevirtual 77, 3) := by decide +kernel
theorem dX10_reason_49 : decode cX10_reason 49 = .ok (.if_icmp .lt 5, 3) := by decide +kernel
theorem dX10_reason_52 : decode cX10_reason 52 = .ok (.iconst 4, 1) := by decide +kernel
theorem dX10_reason_53 : decode cX10_reason 53 = .ok (.ireturn, 1) := by decide +kernel
theorem dX10_reason_54 : decode cX10_reason 54 = .ok (.aload_n 0, 1) := by decide +kernel
theorem dX10_reason_55 : decode cX10_reason 55 = .ok (.getfield 7, 3) := by decide +kernel
theorem dX10_reason_58 : decode cX10_reason 58 = .ok (.iload 4, 2) := by decide +kernel
theorem dX10_reason_60 : decode cX10_reason 60 = .ok (.iconst 1, 1) := by decide +kernel
theorem dX10_reason_61 : decode cX10_reason 61 = .ok (.iadd, 1) := by decide +kernel
theorem dX10_reason_62 : decode cX10_reason 62 = .ok (.iaload, 1) := by decide +kernel
theorem dX10_reason_63 : decode cX10_reason 63 = .ok (.ifCond .le 5, 3) := by decide +kernel
theorem dX10_reason_66 : decode cX10_reason 66 = .ok (.iconst 5, 1) := by decide +kernel
theorem dX10_reason_67 : decode cX10_reason 67 = .ok (.ireturn, 1) := by decide +kernel
theorem dX10_reason_68 : decode cX10_reason 68 = .ok (.iload_n 3, 1) := by decide +kernel
theorem dX10_reason_69 : decode cX10_reason 69 = .ok (.iconst 1, 1) := by decide +kernel
theorem dX10_reason_70 : decode cX10_reason 70 = .ok (.if_icmp .le 25, 3) := by decide +kernel
theorem dX10_reason_73 : decode cX10_reason 73 = .ok (.aload_n 0, 1) := by decide +kernel
theorem dX10_reason_74 : decode cX10_reason 74 = .ok (.getfield 7, 3) := by decide +kernel
theorem dX10_reason_77 : decode cX10_reason 77 = .ok (.iload_n 2, 1) := by decide +kernel
theorem dX10_reason_78 : decode cX10_reason 78 = .ok (.iload_n 3, 1) := by decide +kernel
theorem dX10_reason_79 : decode cX10_reason 79 = .ok (.iconst 2, 1) := by decide +kernel
theorem dX10_reason_80 : decode cX10_reason 80 = .ok (.isub, 1) := by decide +kernel
theorem dX10_reason_81 : decode cX10_reason 81 = .ok (.invokestatic 37, 3) := by decide +kernel
theorem dX10_reason_84 : decode cX10_reason 84 = .ok (.bipush 6, 2) := by decide +kernel
theorem dX10_reason_86 : decode cX10_reason 86 = .ok (.iadd, 1) := by decide +kernel
theorem dX10_reason_87 : decode cX10_reason 87 = .ok (.iaload, 1) := by decide +kernel
theorem dX10_reason_88 : decode cX10_reason 88 = .ok (.iconst 1, 1) := by decide +kernel
theorem dX10_reason_89 : decode cX10_reason 89 = .ok (.if_icmp .ne 6, 3) := by decide +kernel
theorem dX10_reason_92 : decode cX10_reason 92 = .ok (.bipush 6, 2) := by decide +kernel
theorem dX10_reason_94 : decode cX10_reason 94 = .ok (.ireturn, 1) := by decide +kernel
theorem dX10_reason_95 : decode cX10_reason 95 = .ok (.iload_n 3, 1) := by decide +kernel
theorem dX10_reason_96 : decode cX10_reason 96 = .ok (.ifCond .ne 25, 3) := by decide +kernel
theorem dX10_reason_99 : decode cX10_reason 99 = .ok (.aload_n 0, 1) := by decide +kernel
theorem dX10_reason_100 : decode cX10_reason 100 = .ok (.getfield 7, 3) := by decide +kernel
theorem dX10_reason_103 : decode cX10_reason 103 = .ok (.iload_n 1, 1) := by decide +kernel
theorem dX10_reason_104 : decode cX10_reason 104 = .ok (.iconst 0, 1) := by decide +kernel
theorem dX10_reason_105 : decode cX10_reason 105 = .ok (.iadd, 1) := by decide +kernel
theorem dX10_reason_106 : decode cX10_reason 106 = .ok (.iaload, 1) := by decide +kernel
theorem dX10_reason_107 : decode cX10_reason 107 = .ok (.aload_n 0, 1) := by decide +kernel
theorem dX10_reason_108 : decode cX10_reason 108 = .ok (.getfield 7, 3) := by decide +kernel
theorem dX10_reason_111 : decode cX10_reason 111 = .ok (.iload_n 2, 1) := by decide +kernel
theorem dX10_reason_112 : decode cX10_reason 112 = .ok (.iconst 4, 1) := by decide +kernel
theorem dX10_reason_113 : decode cX10_reason 113 = .ok (.iadd, 1) := by decide +kernel
theorem dX10_reason_114 : decode cX10_reason 114 = .ok (.iaload, 1) := by decide +kernel
theorem dX10_reason_115 : decode cX10_reason 115 = .ok (.if_icmp .ge 22, 3) := by decide +kernel
theorem dX10_reason_118 : decode cX10_reason 118 = .ok (.goto 16, 3) := by decide +kernel
theorem dX10_reason_121 : decode cX10_reason 121 = .ok (.aload_n 0, 1) := by decide +kernel
theorem dX10_reason_122 : decode cX10_reason 122 = .ok (.getfield 7, 3) := by decide +kernel
theorem dX10_reason_125 : decode cX10_reason 125 = .ok (.iload_n 2, 1) := by decide +kernel
theorem dX10_reason_126 : decode cX10_reason 126 = .ok (.bipush 9, 2) := by decide +kernel
theorem dX10_reason_128 : decode cX10_reason 128 = .ok (.iadd, 1) := by decide +kernel
theorem dX10_reason_129 : decode cX10_reason 129 = .ok (.iaload, 1) := by decide +kernel
theorem dX10_reason_130 : decode cX10_reason 130 = .ok (.iconst (-1), 1) := by decide +kernel
theorem dX10_reason_131 : decode cX10_reason 131 = .ok (.if_icmp .ne 6, 3) := by decide +kernel
theorem dX10_reason_134 : decode cX10_reason 134 = .ok (.bipush 7, 2) := by decide +kernel
theorem dX10_reason_136 : decode cX10_reason 136 = .ok (.ireturn, 1) := by decide +kernel
theorem dX10_reason_137 : decode cX10_reason 137 = .ok (.iload_n 3, 1) := by decide +kernel
theorem dX10_reason_138 : decode cX10_reason 138 = .ok (.ifCond .le 19, 3) := by decide +kernel
theorem dX10_reason_141 : decode cX10_reason 141 = .ok (.aload_n 0, 1) := by decide +kernel
theorem dX10_reason_142 : decode cX10_reason 142 = .ok (.getfield 7, 3) := by decide +kernel
theorem dX10_reason_145 : decode cX10_reason 145 = .ok (.iload 4, 2) := by decide +kernel
theorem dX10_reason_147 : decode cX10_reason 147 = .ok (.iconst 0, 1) := by decide +kernel
theorem dX10_reason_148 : decode cX10_reason 148 = .ok (.iadd, 1) := by decide +kernel
theorem dX10_reason_149 : decode cX10_reason 149 = .ok (.iaload, 1) := by decide +kernel
theorem dX10_reason_150 : decode cX10_reason 150 = .ok (.iconst (-1), 1) := by decide +kernel
theorem dX10_reason_151 : decode cX10_reason 151 = .ok (.if_icmp .ne 6, 3) := by decide +kernel
theorem dX10_reason_154 : decode cX10_reason 154 = .ok (.bipush 8, 2) := by decide +kernel
theorem dX10_reason_156 : decode cX10_reason 156 = .ok (.ireturn, 1) := by decide +kernel
theorem dX10_reason_157 : decode cX10_reason 157 = .ok (.aload_n 0, 1) := by decide +kernel
theorem dX10_reason_158 : decode cX10_reason 158 = .ok (.getfield 7, 3) := by decide +kernel
theorem dX10_reason_161 : decode cX10_reason 161 = .ok (.iload 4, 2) := by decide +kernel
theorem dX10_reason_163 : decode cX10_reason 163 = .ok (.iconst 3, 1) := by decide +kernel
theorem dX10_reason_164 : decode cX10_reason 164 = .ok (.iadd, 1) := by decide +kernel
theorem dX10_reason_165 : decode cX10_reason 165 = .ok (.iaload, 1) := by decide +kernel
theorem dX10_reason_166 : decode cX10_reason 166 = .ok (.istore 5, 2) := by decide +kernel
theorem dX10_reason_168 : decode cX10_reason 168 = .ok (.iload 5, 2) := by decide +kernel
theorem dX10_reason_170 : decode cX10_reason 170 = .ok (.iconst 1, 1) := by decide +kernel
theorem dX10_reason_171 : decode cX10_reason 171 = .ok (.iand, 1) := by decide +kernel
theorem dX10_reason_172 : decode cX10_reason 172 = .ok (.iconst 1, 1) := by decide +kernel
theorem dX10_reason_173 : decode cX10_reason 173 = .ok (.if_icmp .eq 24, 3) := by decide +kernel
theorem dX10_reason_176 : decode cX10_reason 176 = .ok (.iload 5, 2) := by decide +kernel
theorem dX10_reason_178 : decode cX10_reason 178 = .ok (.iconst 2, 1) := by decide +kernel
theorem dX10_reason_179 : decode cX10_reason 179 = .ok (.iand, 1) := by decide +kernel
theorem dX10_reason_180 : decode cX10_reason 180 = .ok (.iconst 2, 1) := by decide +kernel
theorem dX10_reason_181 : decode cX10_reason 181 = .ok (.if_icmp .ne 21, 3) := by decide +kernel
theorem dX10_reason_184 : decode cX10_reason 184 = .ok (.aload_n 0, 1) := by decide +kernel
theorem dX10_reason_185 : decode cX10_reason 185 = .ok (.getfield 7, 3) := by decide +kernel
theorem dX10_reason_188 : decode cX10_reason 188 = .ok (.iload_n 2, 1) := by decide +kernel
theorem dX10_reason_189 : decode cX10_reason 189 = .ok (.bipush 14, 2) := by decide +kernel
theorem dX10_reason_191 : decode cX10_reason 191 = .ok (.iadd, 1) := by decide +kernel
theorem dX10_reason_192 : decode cX10_reason 192 = .ok (.iaload, 1) := by decide +kernel
theorem dX10_reason_193 : decode cX10_reason 193 = .ok (.iconst 1, 1) := by decide +kernel
theorem dX10_reason_194 : decode cX10_reason 194 = .ok (.if_icmp .ne 8, 3) := by decide +kernel
theorem dX10_reason_197 : decode cX10_reason 197 = .ok (.bipush 9, 2) := by decide +kernel
theorem dX10_reason_199 : decode cX10_reason 199 = .ok (.goto 4, 3) := by decide +kernel
theorem dX10_reason_202 : decode cX10_reason 202 = .ok (.iconst 0, 1) := by decide +kernel
theorem dX10_reason_203 : decode cX10_reason 203 = .ok (.ireturn, 1) := by decide +kernel
