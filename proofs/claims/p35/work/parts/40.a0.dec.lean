theorem dX10_bill_0 : decode cX10_bill 0 = .ok (.aload_n 0, 1) := by decide +kernel
theorem dX10_bill_1 : decode cX10_bill 1 = .ok (.iload_n 1, 1) := by decide +kernel
theorem dX10_bill_2 : decode cX10_bill 2 = .ok (.invokevirtual 116, 3) := by decide +kernel
theorem dX10_bill_5 : decode cX10_bill 5 = .ok (.ifCond .eq 13, 3) := by decide +kernel
theorem dX10_bill_8 : decode cX10_bill 8 = .ok (.iload_n 2, 1) := by decide +kernel
theorem dX10_bill_9 : decode cX10_bill 9 = .ok (.iconst 0, 1) := by decide +kernel
theorem dX10_bill_10 : decode cX10_bill 10 = .ok (.bipush 19, 2) := by decide +kernel
theorem dX10_bill_12 : decode cX10_bill 12 = .ok (.invokestatic 33, 3) := by decide +kernel
theorem dX10_bill_15 : decode cX10_bill 15 = .ok (.ifCond .ne 6, 3) := by decide +kernel
theorem dX10_bill_18 : decode cX10_bill 18 = .ok (.bipush (-2), 2) := by decide +kernel
theorem dX10_bill_20 : decode cX10_bill 20 = .ok (.ireturn, 1) := by decide +kernel
theorem dX10_bill_21 : decode cX10_bill 21 = .ok (.iconst 0, 1) := by decide +kernel
theorem dX10_bill_22 : decode cX10_bill 22 = .ok (.iload_n 1, 1) := by decide +kernel
theorem dX10_bill_23 : decode cX10_bill 23 = .ok (.invokestatic 109, 3) := by decide +kernel
theorem dX10_bill_26 : decode cX10_bill 26 = .ok (.istore_n 3, 1) := by decide +kernel
theorem dX10_bill_27 : decode cX10_bill 27 = .ok (.iload_n 2, 1) := by decide +kernel
theorem dX10_bill_28 : decode cX10_bill 28 = .ok (.bipush 17, 2) := by decide +kernel
theorem dX10_bill_30 : decode cX10_bill 30 = .ok (.if_icmp .ne 17, 3) := by decide +kernel
theorem dX10_bill_33 : decode cX10_bill 33 = .ok (.aload_n 0, 1) := by decide +kernel
theorem dX10_bill_34 : decode cX10_bill 34 = .ok (.iload_n 3, 1) := by decide +kernel
theorem dX10_bill_35 : decode cX10_bill 35 = .ok (.invokevirtual 70, 3) := by decide +kernel
theorem dX10_bill_38 : decode cX10_bill 38 = .ok (.ifCond .eq 7, 3) := by decide +kernel
theorem dX10_bill_41 : decode cX10_bill 41 = .ok (.iconst 1, 1) := by decide +kernel
theorem dX10_bill_42 : decode cX10_bill 42 = .ok (.goto 4, 3) := by decide +kernel
theorem dX10_bill_45 : decode cX10_bill 45 = .ok (.iconst 0, 1) := by decide +kernel
theorem dX10_bill_46 : decode cX10_bill 46 = .ok (.ireturn, 1) := by decide +kernel
theorem dX10_bill_47 : decode cX10_bill 47 = .ok (.iload_n 2, 1) := by decide +kernel
theorem dX10_bill_48 : decode cX10_bill 48 = .ok (.bipush 18, 2) := by decide +kernel
theorem dX10_bill_50 : decode cX10_bill 50 = .ok (.if_icmp .ne 11, 3) := by decide +kernel
theorem dX10_bill_53 : decode cX10_bill 53 = .ok (.aload_n 0, 1) := by decide +kernel
theorem dX10_bill_54 : decode cX10_bill 54 = .ok (.iload_n 3, 1) := by decide +kernel
theorem dX10_bill_55 : decode cX10_bill 55 = .ok (.invokevirtual 77, 3) := by decide +kernel
theorem dX10_bill_58 : decode cX10_bill 58 = .ok (.goto 25, 3) := by decide +kernel
theorem dX10_bill_61 : decode cX10_bill 61 = .ok (.iload_n 2, 1) := by decide +kernel
theorem dX10_bill_62 : decode cX10_bill 62 = .ok (.bipush 19, 2) := by decide +kernel
theorem dX10_bill_64 : decode cX10_bill 64 = .ok (.if_icmp .ne 11, 3) := by decide +kernel
theorem dX10_bill_67 : decode cX10_bill 67 = .ok (.aload_n 0, 1) := by decide +kernel
theorem dX10_bill_68 : decode cX10_bill 68 = .ok (.iload_n 1, 1) := by decide +kernel
theorem dX10_bill_69 : decode cX10_bill 69 = .ok (.invokevirtual 183, 3) := by decide +kernel
theorem dX10_bill_72 : decode cX10_bill 72 = .ok (.goto 11, 3) := by decide +kernel
theorem dX10_bill_75 : decode cX10_bill 75 = .ok (.aload_n 0, 1) := by decide +kernel
theorem dX10_bill_76 : decode cX10_bill 76 = .ok (.getfield 7, 3) := by decide +kernel
theorem dX10_bill_79 : decode cX10_bill 79 = .ok (.iload_n 3, 1) := by decide +kernel
theorem dX10_bill_80 : decode cX10_bill 80 = .ok (.iload_n 2, 1) := by decide +kernel
theorem dX10_bill_81 : decode cX10_bill 81 = .ok (.iadd, 1) := by decide +kernel
theorem dX10_bill_82 : decode cX10_bill 82 = .ok (.iaload, 1) := by decide +kernel
theorem dX10_bill_83 : decode cX10_bill 83 = .ok (.ireturn, 1) := by decide +kernel
theorem dX10_billsThat_0 : decode cX10_billsThat 0 = .ok (.iconst 0, 1) := by decide +kernel
theorem dX10_billsThat_1 : decode cX10_billsThat 1 = .ok (.istore_n 2, 1) := by decide +kernel
theorem dX10_billsThat_2 : decode cX10_billsThat 2 = .ok (.iconst 0, 1) := by decide +kernel
theorem dX10_billsThat_3 : decode cX10_billsThat 3 = .ok (.istore_n 3, 1) := by decide +kernel
theorem dX10_billsThat_4 : decode cX10_billsThat 4 = .ok (.iload_n 3, 1) := by decide +kernel
theorem dX10_billsThat_5 : decode cX10_billsThat 5 = .ok (.aload_n 0, 1) := by decide +kernel
theorem dX10_billsThat_6 : decode cX10_billsThat 6 = .ok (.getfield 7, 3) := by decide +kernel
theorem dX10_billsThat_9 : decode cX10_billsThat 9 = .ok (.iconst 1, 1) := by decide +kernel
theorem dX10_billsThat_10 : decode cX10_billsThat 10 = .ok (.iaload, 1) := by decide +kernel
theorem dX10_billsThat_11 : decode cX10_billsThat 11 = .ok (.if_icmp .ge 55, 3) := by decide +kernel
theorem dX10_billsThat_14 : decode cX10_billsThat 14 = .ok (.iload_n 2, 1) := by decide +kernel
theorem dX10_billsThat_15 : decode cX10_billsThat 15 = .ok (.iload_n 1, 1) := by decide +kernel
theorem dX10_billsThat_16 : decode cX10_billsThat 16 = .ok (.iconst 5, 1) := by decide +kernel
theorem dX10_billsThat_17 : decode cX10_billsThat 17 = .ok (.if_icmp .ne 28, 3) := by decide +kernel
theorem dX10_billsThat_20 : decode cX10_billsThat 20 = .ok (.aload_n 0, 1) := by decide +kernel
theorem dX10_billsThat_21 : decode cX10_billsThat 21 = .ok (.getfield 7, 3) := by decide +kernel
theorem dX10_billsThat_24 : decode cX10_billsThat 24 = .ok (.iconst 0, 1) := by decide +kernel
theorem dX10_billsThat_25 : decode cX10_billsThat 25 = .ok (.iload_n 3, 1) := by decide +kernel
theorem dX10_billsThat_26 : decode cX10_billsThat 26 = .ok (.invokestatic 109, 3) := by decide +kernel
theorem dX10_billsThat_29 : decode cX10_billsThat 29 = .ok (.bipush 9, 2) := by decide +kernel
theorem dX10_billsThat_31 : decode cX10_billsThat 31 = .ok (.iadd, 1) := by decide +kernel
theorem dX10_billsThat_32 : decode cX10_billsThat 32 = .ok (.iaload, 1) := by decide +kernel
theorem dX10_billsThat_33 : decode cX10_billsThat 33 = .ok (.iconst (-1), 1) := by decide +kernel
theorem dX10_billsThat_34 : decode cX10_billsThat 34 = .ok (.if_icmp .eq 7, 3) := by decide +kernel
theorem dX10_billsThat_37 : decode cX10_billsThat 37 = .ok (.iconst 1, 1) := by decide +kernel
theorem dX10_billsThat_38 : decode cX10_billsThat 38 = .ok (.goto 20, 3) := by decide +kernel
theorem dX10_billsThat_41 : decode cX10_billsThat 41 = .ok (.iconst 0, 1) := by decide +kernel
theorem dX10_billsThat_42 : decode cX10_billsThat 42 = .ok (.goto 16, 3) := by decide +kernel
theorem dX10_billsThat_45 : decode cX10_billsThat 45 = .ok (.aload_n 0, 1) := by decide +kernel
theorem dX10_billsThat_46 : decode cX10_billsThat 46 = .ok (.getfield 7, 3) := by decide +kernel
theorem dX10_billsThat_49 : decode cX10_billsThat 49 = .ok (.iconst 0, 1) := by decide +kernel
theorem dX10_billsThat_50 : decode cX10_billsThat 50 = .ok (.iload_n 3, 1) := by decide +kernel
theorem dX10_billsThat_51 : decode cX10_billsThat 51 = .ok (.invokestatic 109, 3) := by decide +kernel
theorem dX10_billsThat_54 : decode cX10_billsThat 54 = .ok (.bipush 10, 2) := by decide +kernel
theorem dX10_billsThat_56 : decode cX10_billsThat 56 = .ok (.iadd, 1) := by decide +kernel
theorem dX10_billsThat_57 : decode cX10_billsThat 57 = .ok (.iaload, 1) := by decide +kernel
theorem dX10_billsThat_58 : decode cX10_billsThat 58 = .ok (.iadd, 1) := by decide +kernel
theorem dX10_billsThat_59 : decode cX10_billsThat 59 = .ok (.istore_n 2, 1) := by decide +kernel
theorem dX10_billsThat_60 : decode cX10_billsThat 60 = .ok (.iinc 3 1, 3) := by decide +kernel
theorem dX10_billsThat_63 : decode cX10_billsThat 63 = .ok (.goto (-59), 3) := by decide +kernel
theorem dX10_billsThat_66 : decode cX10_billsThat 66 = .ok (.iload_n 2, 1) := by decide +kernel
theorem dX10_billsThat_67 : decode cX10_billsThat 67 = .ok (.ireturn, 1) := by decide +kernel
theorem dX10_count_0 : decode cX10_count 0 = .ok (.iload_n 1, 1) := by decide +kernel
theorem dX10_count_1 : decode cX10_count 1 = .ok (.bipush 10, 2) := by decide +kernel
theorem dX10_count_3 : decode cX10_count 3 = .ok (.bipush 17, 2) := by decide +kernel
theorem dX10_count_5 : decode cX10_count 5 = .ok (.invokestatic 33, 3) := by decide +kernel
theorem dX10_count_8 : decode cX10_count 8 = .ok (.ifCond .eq 16, 3) := by decide +kernel
theorem dX10_count_11 : decode cX10_count 11 = .ok (.aload_n 0, 1) := by decide +kernel
theorem dX10_count_12 : decode cX10_count 12 = .ok (.getfield 7, 3) := by decide +kernel
theorem dX10_count_15 : decode cX10_count 15 = .ok (.bipush 6, 2) := by decide +kernel
theorem dX10_count_17 : decode cX10_count 17 = .ok (.iload_n 1, 1) := by decide +kernel
theorem dX10_count_18 : decode cX10_count 18 = .ok (.iadd, 1) := by decide +kernel
theorem dX10_count_19 : decode cX10_count 19 = .ok (.bipush 10, 2) := by decide +kernel
theorem dX10_count_21 : decode cX10_count 21 = .ok (.isub, 1) := by decide +kernel
theorem dX10_count_22 : decode cX10_count 22 = .ok (.iaload, 1) := by decide +kernel
theorem dX10_count_23 : decode cX10_count 23 = .ok (.ireturn, 1) := by decide +kernel
theorem dX10_count_24 : decode cX10_count 24 = .ok (.iload_n 1, 1) := by decide +kernel
theorem dX10_count_25 : decode cX10_count 25 = .ok (.tableswitch 134 0 8 #[51, 58, 65, 72, 102, 109, 115, 122, 129], 51) := by decide +kernel
theorem dX10_count_76 : decode cX10_count 76 = .ok (.aload_n 0, 1) := by decide +kernel
theorem dX10_count_77 : decode cX10_count 77 = .ok (.getfield 7, 3) := by decide +kernel
theorem dX10_count_80 : decode cX10_count 80 = .ok (.iconst 0, 1) := by decide +kernel
theorem dX10_count_81 : decode cX10_count 81 = .ok (.iaload, 1) := by decide +kernel
theorem dX10_count_82 : decode cX10_count 82 = .ok (.ireturn, 1) := by decide +kernel
theorem dX10_count_83 : decode cX10_count 83 = .ok (.aload_n 0, 1) := by decide +kernel
theorem dX10_count_84 : decode cX10_count 84 = .ok (.getfield 7, 3) := by decide +kernel
theorem dX10_count_87 : decode cX10_count 87 = .ok (.iconst 1, 1) := by decide +kernel
theorem dX10_count_88 : decode cX10_count 88 = .ok (.iaload, 1) := by decide +kernel
theorem dX10_count_89 : decode cX10_count 89 = .ok (.ireturn, 1) := by decide +kernel
theorem dX10_count_90 : decode cX10_count 90 = .ok (.aload_n 0, 1) := by decide +kernel
theorem dX10_count_91 : decode cX10_count 91 = .ok (.getfield 7, 3) := by decide +kernel
theorem dX10_count_94 : decode cX10_count 94 = .ok (.iconst 2, 1) := by decide +kernel
theorem dX10_count_95 : decode cX10_count 95 = .ok (.iaload, 1) := by decide +kernel
theorem dX10_count_96 : decode cX10_count 96 = .ok (.ireturn, 1) := by decide +kernel
theorem dX10_count_97 : decode cX10_count 97 = .ok (.iconst 0, 1) := by decide +kernel
theorem dX10_count_98 : decode cX10_count 98 = .ok (.istore_n 2, 1) := by decide +kernel
theorem dX10_count_99 : decode cX10_count 99 = .ok (.iconst 0, 1) := by decide +kernel
theorem dX10_count_100 : decode cX10_count 100 = .ok (.istore_n 3, 1) := by decide +kernel
theorem dX10_count_101 : decode cX10_count 101 = .ok (.iload_n 3, 1) := by decide +kernel
theorem dX10_count_102 : decode cX10_count 102 = .ok (.bipush 8, 2) := by decide +kernel
theorem dX10_count_104 : decode cX10_count 104 = .ok (.if_icmp .ge 21, 3) := by decide +kernel
theorem dX10_count_107 : decode cX10_count 107 = .ok (.iload_n 2, 1) := by decide +kernel
theorem dX10_count_108 : decode cX10_count 108 = .ok (.aload_n 0, 1) := by decide +kernel
theorem dX10_count_109 : decode cX10_count 109 = .ok (.getfield 7, 3) := by decide +kernel
theorem dX10_count_112 : decode cX10_count 112 = .ok (.bipush 6, 2) := by decide +kernel
theorem dX10_count_114 : decode cX10_count 114 = .ok (.iload_n 3, 1) := by decide +kernel
theorem dX10_count_115 : decode cX10_count 115 = .ok (.iadd, 1) := by decide +kernel
theorem dX10_count_116 : decode cX10_count 116 = .ok (.iaload, 1) := by decide +kernel
theorem dX10_count_117 : decode cX10_count 117 = .ok (.iadd, 1) := by decide +kernel
theorem dX10_count_118 : decode cX10_count 118 = .ok (.istore_n 2, 1) := by decide +kernel
theorem dX10_count_119 : decode cX10_count 119 = .ok (.iinc 3 1, 3) := by decide +kernel
theorem dX10_count_122 : decode cX10_count 122 = .ok (.goto (-21), 3) := by decide +kernel
theorem dX10_count_125 : decode cX10_count 125 = .ok (.iload_n 2, 1) := by decide +kernel
theorem dX10_count_126 : decode cX10_count 126 = .ok (.ireturn, 1) := by decide +kernel
theorem dX10_count_127 : decode cX10_count 127 = .ok (.aload_n 0, 1) := by decide +kernel
theorem dX10_count_128 : decode cX10_count 128 = .ok (.getfield 7, 3) := by decide +kernel
theorem dX10_count_131 : decode cX10_count 131 = .ok (.iconst 3, 1) := by decide +kernel
theorem dX10_count_132 : decode cX10_count 132 = .ok (.iaload, 1) := by decide +kernel
theorem dX10_count_133 : decode cX10_count 133 = .ok (.ireturn, 1) := by decide +kernel
theorem dX10_count_134 : decode cX10_count 134 = .ok (.aload_n 0, 1) := by decide +kernel
theorem dX10_count_135 : decode cX10_count 135 = .ok (.iconst 5, 1) := by decide +kernel
theorem dX10_count_136 : decode cX10_count 136 = .ok (.invokevirtual 177, 3) := by decide +kernel
theorem dX10_count_139 : decode cX10_count 139 = .ok (.ireturn, 1) := by decide +kernel
theorem dX10_count_140 : decode cX10_count 140 = .ok (.aload_n 0, 1) := by decide +kernel
theorem dX10_count_141 : decode cX10_count 141 = .ok (.bipush 6, 2) := by decide +kernel
theorem dX10_count_143 : decode cX10_count 143 = .ok (.invokevirtual 177, 3) := by decide +kernel
theorem dX10_count_146 : decode cX10_count 146 = .ok (.ireturn, 1) := by decide +kernel
theorem dX10_count_147 : decode cX10_count 147 = .ok (.aload_n 0, 1) := by decide +kernel
theorem dX10_count_148 : decode cX10_count 148 = .ok (.getfield 7, 3) := by decide +kernel
theorem dX10_count_151 : decode cX10_count 151 = .ok (.iconst 4, 1) := by decide +kernel
theorem dX10_count_152 : decode cX10_count 152 = .ok (.iaload, 1) := by decide +kernel
theorem dX10_count_153 : decode cX10_count 153 = .ok (.ireturn, 1) := by decide +kernel
theorem dX10_count_154 : decode cX10_count 154 = .ok (.aload_n 0, 1) := by decide +kernel
theorem dX10_count_155 : decode cX10_count 155 = .ok (.getfield 180, 3) := by decide +kernel
theorem dX10_count_158 : decode cX10_count 158 = .ok (.ireturn, 1) := by decide +kernel
theorem dX10_count_159 : decode cX10_count 159 = .ok (.iconst (-1), 1) := by decide +kernel
theorem dX10_count_160 : decode cX10_count 160 = .ok (.ireturn, 1) := by decide +kernel
theorem dX10_ends_0 : decode cX10_ends 0 = .ok (.aload_n 0, 1) := by decide +kernel
theorem dX10_ends_1 : decode cX10_ends 1 = .ok (.iload_n 1, 1) := by decide +kernel
theorem dX10_ends_2 : decode cX10_ends 2 = .ok (.invokevirtual 116, 3) := by decide +kernel
theorem dX10_ends_5 : decode cX10_ends 5 = .ok (.ifCond .ne 5, 3) := by decide +kernel
theorem dX10_ends_8 : decode cX10_ends 8 = .ok (.iconst (-1), 1) := by decide +kernel
theorem dX10_ends_9 : decode cX10_ends 9 = .ok (.ireturn, 1) := by decide +kernel
theorem dX10_ends_10 : decode cX10_ends 10 = .ok (.aload_n 0, 1) := by decide +kernel
theorem dX10_ends_11 : decode cX10_ends 11 = .ok (.iload_n 1, 1) := by decide +kernel
theorem dX10_ends_12 : decode cX10_ends 12 = .ok (.invokevirtual 198, 3) := by decide +kernel
theorem dX10_ends_15 : decode cX10_ends 15 = .ok (.istore_n 2, 1) := by decide +kernel
theorem dX10_ends_16 : decode cX10_ends 16 = .ok (.aload_n 0, 1) := by decide +kernel
theorem dX10_ends_17 : decode cX10_ends 17 = .ok (.getfield 7, 3) := by decide +kernel
theorem dX10_ends_20 : decode cX10_ends 20 = .ok (.sipush 1140, 3) := by decide +kernel
theorem dX10_ends_23 : decode cX10_ends 23 = .ok (.iload_n 1, 1) := by decide +kernel
theorem dX10_ends_24 : decode cX10_ends 24 = .ok (.invokestatic 109, 3) := by decide +kernel
theorem dX10_ends_27 : decode cX10_ends 27 = .ok (.bipush 7, 2) := by decide +kernel
theorem dX10_ends_29 : decode cX10_ends 29 = .ok (.iadd, 1) := by decide +kernel
theorem dX10_ends_30 : decode cX10_ends 30 = .ok (.iaload, 1) := by decide +kernel
theorem dX10_ends_31 : decode cX10_ends 31 = .ok (.ireturn, 1) := by decide +kernel
theorem dX10_gains_0 : decode cX10_gains 0 = .ok (.aload_n 0, 1) := by decide +kernel
theorem dX10_gains_1 : decode cX10_gains 1 = .ok (.iload_n 1, 1) := by decide +kernel
theorem dX10_gains_2 : decode cX10_gains 2 = .ok (.invokevirtual 116, 3) := by decide +kernel
theorem dX10_gains_5 : decode cX10_gains 5 = .ok (.ifCond .eq 10, 3) := by decide +kernel
theorem dX10_gains_8 : decode cX10_gains 8 = .ok (.iload_n 2, 1) := by decide +kernel
theorem dX10_gains_9 : decode cX10_gains 9 = .ok (.invokestatic 100, 3) := by decide +kernel
theorem dX10_gains_12 : decode cX10_gains 12 = .ok (.ifCond .ne 5, 3) := by decide +kernel
theorem dX10_gains_15 : decode cX10_gains 15 = .ok (.iconst 0, 1) := by decide +kernel
theorem dX10_gains_16 : decode cX10_gains 16 = .ok (.ireturn, 1) := by decide +kernel
theorem dX10_gains_17 : decode cX10_gains 17 = .ok (.aload_n 0, 1) := by decide +kernel
theorem dX10_gains_18 : decode cX10_gains 18 = .ok (.iload_n 1, 1) := by decide +kernel
theorem dX10_gains_19 : decode cX10_gains 19 = .ok (.invokevirtual 198, 3) := by decide +kernel
theorem dX10_gains_22 : decode cX10_gains 22 = .ok (.istore_n 3, 1) := by decide +kernel
theorem dX10_gains_23 : decode cX10_gains 23 = .ok (.aload_n 0, 1) := by decide +kernel
theorem dX10_gains_24 : decode cX10_gains 24 = .ok (.getfield 7, 3) := by decide +kernel
theorem dX10_gains_27 : decode cX10_gains 27 = .ok (.sipush 1146, 3) := by decide +kernel
theorem dX10_gains_30 : decode cX10_gains 30 = .ok (.iload_n 2, 1) := by decide +kernel
theorem dX10_gains_31 : decode cX10_gains 31 = .ok (.iadd, 1) := by decide +kernel
theorem dX10_gains_32 : decode cX10_gains 32 = .ok (.iaload, 1) := by decide +kernel
theorem dX10_gains_33 : decode cX10_gains 33 = .ok (.aload_n 0, 1) := by decide +kernel
theorem dX10_gains_34 : decode cX10_gains 34 = .ok (.getfield 7, 3) := by decide +kernel
theorem dX10_gains_37 : decode cX10_gains 37 = .ok (.bipush 6, 2) := by decide +kernel
theorem dX10_gains_39 : decode cX10_gains 39 = .ok (.iload_n 2, 1) := by decide +kernel
theorem dX10_gains_40 : decode cX10_gains 40 = .ok (.iadd, 1) := by decide +kernel
theorem dX10_gains_41 : decode cX10_gains 41 = .ok (.iaload, 1) := by decide +kernel
theorem dX10_gains_42 : decode cX10_gains 42 = .ok (.isub, 1) := by decide +kernel
theorem dX10_gains_43 : decode cX10_gains 43 = .ok (.ireturn, 1) := by decide +kernel
theorem dX10_isStep_0 : decode cX10_isStep 0 = .ok (.aload_n 0, 1) := by decide +kernel
theorem dX10_isStep_1 : decode cX10_isStep 1 = .ok (.iload_n 1, 1) := by decide +kernel
theorem dX10_isStep_2 : decode cX10_isStep 2 = .ok (.invokevirtual 116, 3) := by decide +kernel
theorem dX10_isStep_5 : decode cX10_isStep 5 = .ok (.ifCond .eq 30, 3) := by decide +kernel
theorem dX10_isStep_8 : decode cX10_isStep 8 = .ok (.iload_n 2, 1) := by decide +kernel
theorem dX10_isStep_9 : decode cX10_isStep 9 = .ok (.iconst 0, 1) := by decide +kernel
theorem dX10_isStep_10 : decode cX10_isStep 10 = .ok (.aload_n 0, 1) := by decide +kernel
theorem dX10_isStep_11 : decode cX10_isStep 11 = .ok (.getfield 7, 3) := by decide +kernel
theorem dX10_isStep_14 : decode cX10_isStep 14 = .ok (.iconst 0, 1) := by decide +kernel
theorem dX10_isStep_15 : decode cX10_isStep 15 = .ok (.iload_n 1, 1) := by decide +kernel
theorem dX10_isStep_16 : decode cX10_isStep 16 = .ok (.invokestatic 109, 3) := by decide +kernel
theorem dX10_isStep_19 : decode cX10_isStep 19 = .ok (.bipush 8, 2) := by decide +kernel
theorem dX10_isStep_21 : decode cX10_isStep 21 = .ok (.iadd, 1) := by decide +kernel
theorem dX10_isStep_22 : decode cX10_isStep 22 = .ok (.iaload, 1) := by decide +kernel
theorem dX10_isStep_23 : decode cX10_isStep 23 = .ok (.iconst 1, 1) := by decide +kernel
theorem dX10_isStep_24 : decode cX10_isStep 24 = .ok (.isub, 1) := by decide +kernel
theorem dX10_isStep_25 : decode cX10_isStep 25 = .ok (.invokestatic 33, 3) := by decide +kernel
theorem dX10_isStep_28 : decode cX10_isStep 28 = .ok (.ifCond .eq 7, 3) := by decide +kernel
theorem dX10_isStep_31 : decode cX10_isStep 31 = .ok (.iconst 1, 1) := by decide +kernel
theorem dX10_isStep_32 : decode cX10_isStep 32 = .ok (.goto 4, 3) := by decide +kernel
theorem dX10_isStep_35 : decode cX10_isStep 35 = .ok (.iconst 0, 1) := by decide +kernel
theorem dX10_isStep_36 : decode cX10_isStep 36 = .ok (.ireturn, 1) := by decide +kernel
theorem dX10_liable_0 : decode cX10_liable 0 = .ok (.aload_n 0, 1) := by decide +kernel
theorem dX10_liable_1 : decode cX10_liable 1 = .ok (.iload_n 1, 1) := by decide +kernel
theorem dX10_liable_2 : decode cX10_liable 2 = .ok (.invokevirtual 116, 3) := by decide +kernel
theorem dX10_liable_5 : decode cX10_liable 5 = .ok (.ifCond .eq 16, 3) := by decide +kernel
theorem dX10_liable_8 : decode cX10_liable 8 = .ok (.aload_n 0, 1) := by decide +kernel
theorem dX10_liable_9 : decode cX10_liable 9 = .ok (.iconst 0, 1) := by decide +kernel
theorem dX10_liable_10 : decode cX10_liable 10 = .ok (.iconst 0, 1) := by decide +kernel
theorem dX10_liable_11 : decode cX10_liable 11 = .ok (.iload_n 1, 1) := by decide +kernel
theorem dX10_liable_12 : decode cX10_liable 12 = .ok (.invokestatic 109, 3) := by decide +kernel
theorem dX10_liable_15 : decode cX10_liable 15 = .ok (.invokevirtual 195, 3) := by decide +kernel
theorem dX10_liable_18 : decode cX10_liable 18 = .ok (.goto 5, 3) := by decide +kernel
theorem dX10_liable_21 : decode cX10_liable 21 = .ok (.bipush (-2), 2) := by decide +kernel
theorem dX10_liable_23 : decode cX10_liable 23 = .ok (.ireturn, 1) := by decide +kernel
theorem dX10_owes_0 : decode cX10_owes 0 = .ok (.iload_n 1, 1) := by decide +kernel
theorem dX10_owes_1 : decode cX10_owes 1 = .ok (.invokestatic 100, 3) := by decide +kernel
theorem dX10_owes_4 : decode cX10_owes 4 = .ok (.ifCond .ne 5, 3) := by decide +kernel
theorem dX10_owes_7 : decode cX10_owes 7 = .ok (.iconst (-1), 1) := by decide +kernel
theorem dX10_owes_8 : decode cX10_owes 8 = .ok (.ireturn, 1) := by decide +kernel
theorem dX10_owes_9 : decode cX10_owes 9 = .ok (.iconst 0, 1) := by decide +kernel
theorem dX10_owes_10 : decode cX10_owes 10 = .ok (.istore_n 2, 1) := by decide +kernel
theorem dX10_owes_11 : decode cX10_owes 11 = .ok (.iconst 0, 1) := by decide +kernel
theorem dX10_owes_12 : decode cX10_owes 12 = .ok (.istore_n 3, 1) := by decide +kernel
theorem dX10_owes_13 : decode cX10_owes 13 = .ok (.iload_n 3, 1) := by decide +kernel
theorem dX10_owes_14 : decode cX10_owes 14 = .ok (.aload_n 0, 1) := by decide +kernel
theorem dX10_owes_15 : decode cX10_owes 15 = .ok (.getfield 7, 3) := by decide +kernel
theorem dX10_owes_18 : decode cX10_owes 18 = .ok (.iconst 1, 1) := by decide +kernel
theorem dX10_owes_19 : decode cX10_owes 19 = .ok (.iaload, 1) := by decide +kernel
theorem dX10_owes_20 : decode cX10_owes 20 = .ok (.if_icmp .ge 115, 3) := by decide +kernel
theorem dX10_owes_23 : decode cX10_owes 23 = .ok (.iconst 0, 1) := by decide +kernel
theorem dX10_owes_24 : decode cX10_owes 24 = .ok (.iload_n 3, 1) := by decide +kernel
theorem dX10_owes_25 : decode cX10_owes 25 = .ok (.invokestatic 109, 3) := by decide +kernel
theorem dX10_owes_28 : decode cX10_owes 28 = .ok (.istore 4, 2) := by decide +kernel
theorem dX10_owes_30 : decode cX10_owes 30 = .ok (.iconst 0, 1) := by decide +kernel
theorem dX10_owes_31 : decode cX10_owes 31 = .ok (.istore 5, 2) := by decide +kernel
theorem dX10_owes_33 : decode cX10_owes 33 = .ok (.iconst 0, 1) := by decide +kernel
theorem dX10_owes_34 : decode cX10_owes 34 = .ok (.istore 6, 2) := by decide +kernel
theorem dX10_owes_36 : decode cX10_owes 36 = .ok (.iload 6, 2) := by decide +kernel
theorem dX10_owes_38 : decode cX10_owes 38 = .ok (.iconst 1, 1) := by decide +kernel
theorem dX10_owes_39 : decode cX10_owes 39 = .ok (.aload_n 0, 1) := by decide +kernel
theorem dX10_owes_40 : decode cX10_owes 40 = .ok (.getfield 7, 3) := by decide +kernel
theorem dX10_owes_43 : decode cX10_owes 43 = .ok (.iload 4, 2) := by decide +kernel
theorem dX10_owes_45 : decode cX10_owes 45 = .ok (.bipush 8, 2) := by decide +kernel
theorem dX10_owes_47 : decode cX10_owes 47 = .ok (.iadd, 1) := by decide +kernel
theorem dX10_owes_48 : decode cX10_owes 48 = .ok (.iaload, 1) := by decide +kernel
theorem dX10_owes_49 : decode cX10_owes 49 = .ok (.iadd, 1) := by decide +kernel
theorem dX10_owes_50 : decode cX10_owes 50 = .ok (.if_icmp .gt 45, 3) := by decide +kernel
theorem dX10_owes_53 : decode cX10_owes 53 = .ok (.iload 5, 2) := by decide +kernel
theorem dX10_owes_55 : decode cX10_owes 55 = .ok (.ifCond .ne 27, 3) := by decide +kernel
theorem dX10_owes_58 : decode cX10_owes 58 = .ok (.aload_n 0, 1) := by decide +kernel
theorem dX10_owes_59 : decode cX10_owes 59 = .ok (.iload 4, 2) := by decide +kernel
theorem dX10_owes_61 : decode cX10_owes 61 = .ok (.iload 6, 2) := by decide +kernel
theorem dX10_owes_63 : decode cX10_owes 63 = .ok (.invokevirtual 41, 3) := by decide +kernel
theorem dX10_owes_66 : decode cX10_owes 66 = .ok (.iload_n 1, 1) := by decide +kernel
theorem dX10_owes_67 : decode cX10_owes 67 = .ok (.if_icmp .ne 19, 3) := by decide +kernel
theorem dX10_owes_70 : decode cX10_owes 70 = .ok (.aload_n 0, 1) := by decide +kernel
theorem dX10_owes_71 : decode cX10_owes 71 = .ok (.iconst 0, 1) := by decide +kernel
theorem dX10_owes_72 : decode cX10_owes 72 = .ok (.iload 4, 2) := by decide +kernel
theorem dX10_owes_74 : decode cX10_owes 74 = .ok (.iload 6, 2) := by decide +kernel
theorem dX10_owes_76 : decode cX10_owes 76 = .ok (.invokevirtual 81, 3) := by decide +kernel
theorem dX10_owes_79 : decode cX10_owes 79 = .ok (.ifCond .ne 7, 3) := by decide +kernel
theorem dX10_owes_82 : decode cX10_owes 82 = .ok (.iconst 1, 1) := by decide +kernel
theorem dX10_owes_83 : decode cX10_owes 83 = .ok (.goto 4, 3) := by decide +kernel
theorem dX10_owes_86 : decode cX10_owes 86 = .ok (.iconst 0, 1) := by decide +kernel
theorem dX10_owes_87 : decode cX10_owes 87 = .ok (.istore 5, 2) := by decide +kernel
theorem dX10_owes_89 : decode cX10_owes 89 = .ok (.iinc 6 1, 3) := by decide +kernel
theorem dX10_owes_92 : decode cX10_owes 92 = .ok (.goto (-56), 3) := by decide +kernel
theorem dX10_owes_95 : decode cX10_owes 95 = .ok (.iload_n 2, 1) := by decide +kernel
theorem dX10_owes_96 : decode cX10_owes 96 = .ok (.iload 5, 2) := by decide +kernel
theorem dX10_owes_98 : decode cX10_owes 98 = .ok (.ifCond .eq 28, 3) := by decide +kernel
theorem dX10_owes_101 : decode cX10_owes 101 = .ok (.aload_n 0, 1) := by decide +kernel
theorem dX10_owes_102 : decode cX10_owes 102 = .ok (.getfield 7, 3) := by decide +kernel
theorem dX10_owes_105 : decode cX10_owes 105 = .ok (.iload 4, 2) := by decide +kernel
theorem dX10_owes_107 : decode cX10_owes 107 = .ok (.bipush 10, 2) := by decide +kernel
theorem dX10_owes_109 : decode cX10_owes 109 = .ok (.iadd, 1) := by decide +kernel
theorem dX10_owes_110 : decode cX10_owes 110 = .ok (.iaload, 1) := by decide +kernel
theorem dX10_owes_111 : decode cX10_owes 111 = .ok (.ifCond .ne 15, 3) := by decide +kernel
theorem dX10_owes_114 : decode cX10_owes 114 = .ok (.aload_n 0, 1) := by decide +kernel
theorem dX10_owes_115 : decode cX10_owes 115 = .ok (.getfield 7, 3) := by decide +kernel
theorem dX10_owes_118 : decode cX10_owes 118 = .ok (.iload 4, 2) := by decide +kernel
theorem dX10_owes_120 : decode cX10_owes 120 = .ok (.iconst 3, 1) := by decide +kernel
theorem dX10_owes_121 : decode cX10_owes 121 = .ok (.iadd, 1) := by decide +kernel
theorem dX10_owes_122 : decode cX10_owes 122 = .ok (.iaload, 1) := by decide +kernel
theorem dX10_owes_123 : decode cX10_owes 123 = .ok (.goto 4, 3) := by decide +kernel
theorem dX10_owes_126 : decode cX10_owes 126 = .ok (.iconst 0, 1) := by decide +kernel
theorem dX10_owes_127 : decode cX10_owes 127 = .ok (.iadd, 1) := by decide +kernel
theorem dX10_owes_128 : decode cX10_owes 128 = .ok (.istore_n 2, 1) := by decide +kernel
theorem dX10_owes_129 : decode cX10_owes 129 = .ok (.iinc 3 1, 3) := by decide +kernel
theorem dX10_owes_132 : decode cX10_owes 132 = .ok (.goto (-119), 3) := by decide +kernel
theorem dX10_owes_135 : decode cX10_owes 135 = .ok (.iload_n 2, 1) := by decide +kernel
theorem dX10_owes_136 : decode cX10_owes 136 = .ok (.ireturn, 1) := by decide +kernel
theorem dX10_party_0 : decode cX10_party 0 = .ok (.aload_n 0, 1) := by decide +kernel
theorem dX10_party_1 : decode cX10_party 1 = .ok (.iload_n 1, 1) := by decide +kernel
theorem dX10_party_2 : decode cX10_party 2 = .ok (.invokevirtual 116, 3) := by decide +kernel
theorem dX10_party_5 : decode cX10_party 5 = .ok (.ifCond .eq 16, 3) := by decide +kernel
theorem dX10_party_8 : decode cX10_party 8 = .ok (.aload_n 0, 1) := by decide +kernel
theorem dX10_party_9 : decode cX10_party 9 = .ok (.iconst 0, 1) := by decide +kernel
theorem dX10_party_10 : decode cX10_party 10 = .ok (.iload_n 1, 1) := by decide +kernel
theorem dX10_party_11 : decode cX10_party 11 = .ok (.invokestatic 109, 3) := by decide +kernel
theorem dX10_party_14 : decode cX10_party 14 = .ok (.iload_n 2, 1) := by decide +kernel
theorem dX10_party_15 : decode cX10_party 15 = .ok (.invokevirtual 140, 3) := by decide +kernel
theorem dX10_party_18 : decode cX10_party 18 = .ok (.ifCond .ne 6, 3) := by decide +kernel
theorem dX10_party_21 : decode cX10_party 21 = .ok (.bipush (-2), 2) := by decide +kernel
theorem dX10_party_23 : decode cX10_party 23 = .ok (.ireturn, 1) := by decide +kernel
theorem dX10_party_24 : decode cX10_party 24 = .ok (.iconst 0, 1) := by decide +kernel
theorem dX10_party_25 : decode cX10_party 25 = .ok (.iload_n 1, 1) := by decide +kernel
theorem dX10_party_26 : decode cX10_party 26 = .ok (.invokestatic 109, 3) := by decide +kernel
theorem dX10_party_29 : decode cX10_party 29 = .ok (.istore 4, 2) := by decide +kernel
theorem dX10_party_31 : decode cX10_party 31 = .ok (.iload 4, 2) := by decide +kernel
theorem dX10_party_33 : decode cX10_party 33 = .ok (.iload_n 2, 1) := by decide +kernel
theorem dX10_party_34 : decode cX10_party 34 = .ok (.invokestatic 56, 3) := by decide +kernel
theorem dX10_party_37 : decode cX10_party 37 = .ok (.istore 5, 2) := by decide +kernel
theorem dX10_party_39 : decode cX10_party 39 = .ok (.iload_n 3, 1) := by decide +kernel
theorem dX10_party_40 : decode cX10_party 40 = .ok (.tableswitch 111 0 5 #[40, 48, 64, 74, 92, 102], 40) := by decide +kernel
theorem dX10_party_80 : decode cX10_party 80 = .ok (.aload_n 0, 1) := by decide +kernel
theorem dX10_party_81 : decode cX10_party 81 = .ok (.iload 4, 2) := by decide +kernel
theorem dX10_party_83 : decode cX10_party 83 = .ok (.iload_n 2, 1) := by decide +kernel
theorem dX10_party_84 : decode cX10_party 84 = .ok (.invokevirtual 41, 3) := by decide +kernel
theorem dX10_party_87 : decode cX10_party 87 = .ok (.ireturn, 1) := by decide +kernel
theorem dX10_party_88 : decode cX10_party 88 = .ok (.aload_n 0, 1) := by decide +kernel
theorem dX10_party_89 : decode cX10_party 89 = .ok (.iload 4, 2) := by decide +kernel
theorem dX10_party_91 : decode cX10_party 91 = .ok (.iload_n 2, 1) := by decide +kernel
theorem dX10_party_92 : decode cX10_party 92 = .ok (.invokevirtual 66, 3) := by decide +kernel
theorem dX10_party_95 : decode cX10_party 95 = .ok (.ifCond .eq 7, 3) := by decide +kernel
theorem dX10_party_98 : decode cX10_party 98 = .ok (.iconst 1, 1) := by decide +kernel
theorem dX10_party_99 : decode cX10_party 99 = .ok (.goto 4, 3) := by decide +kernel
theorem dX10_party_102 : decode cX10_party 102 = .ok (.iconst 0, 1) := by decide +kernel
theorem dX10_party_103 : decode cX10_party 103 = .ok (.ireturn, 1) := by decide +kernel
theorem dX10_party_104 : decode cX10_party 104 = .ok (.aload_n 0, 1) := by decide +kernel
theorem dX10_party_105 : decode cX10_party 105 = .ok (.getfield 7, 3) := by decide +kernel
theorem dX10_party_108 : decode cX10_party 108 = .ok (.iload 5, 2) := by decide +kernel
theorem dX10_party_110 : decode cX10_party 110 = .ok (.iconst 0, 1) := by decide +kernel
theorem dX10_party_111 : decode cX10_party 111 = .ok (.iadd, 1) := by decide +kernel
theorem dX10_party_112 : decode cX10_party 112 = .ok (.iaload, 1) := by decide +kernel
theorem dX10_party_113 : decode cX10_party 113 = .ok (.ireturn, 1) := by decide +kernel
theorem dX10_party_114 : decode cX10_party 114 = .ok (.aload_n 0, 1) := by decide +kernel
theorem dX10_party_115 : decode cX10_party 115 = .ok (.getfield 7, 3) := by decide +kernel
theorem dX10_party_118 : decode cX10_party 118 = .ok (.iload 5, 2) := by decide +kernel
theorem dX10_party_120 : decode cX10_party 120 = .ok (.iconst 1, 1) := by decide +kernel
theorem dX10_party_121 : decode cX10_party 121 = .ok (.iadd, 1) := by decide +kernel
theorem dX10_party_122 : decode cX10_party 122 = .ok (.iaload, 1) := by decide +kernel
theorem dX10_party_123 : decode cX10_party 123 = .ok (.ifCond .le 7, 3) := by decide +kernel
theorem dX10_party_126 : decode cX10_party 126 = .ok (.iconst 1, 1) := by decide +kernel
theorem dX10_party_127 : decode cX10_party 127 = .ok (.goto 4, 3) := by decide +kernel
theorem dX10_party_130 : decode cX10_party 130 = .ok (.iconst 0, 1) := by decide +kernel
theorem dX10_party_131 : decode cX10_party 131 = .ok (.ireturn, 1) := by decide +kernel
theorem dX10_party_132 : decode cX10_party 132 = .ok (.aload_n 0, 1) := by decide +kernel
theorem dX10_party_133 : decode cX10_party 133 = .ok (.getfield 7, 3) := by decide +kernel
theorem dX10_party_136 : decode cX10_party 136 = .ok (.iload 5, 2) := by decide +kernel
theorem dX10_party_138 : decode cX10_party 138 = .ok (.iconst 3, 1) := by decide +kernel
theorem dX10_party_139 : decode cX10_party 139 = .ok (.iadd, 1) := by decide +kernel
theorem dX10_party_140 : decode cX10_party 140 = .ok (.iaload, 1) := by decide +kernel
theorem dX10_party_141 : decode cX10_party 141 = .ok (.ireturn, 1) := by decide +kernel
theorem dX10_party_142 : decode cX10_party 142 = .ok (.aload_n 0, 1) := by decide +kernel
theorem dX10_party_143 : decode cX10_party 143 = .ok (.iconst 0, 1) := by decide +kernel
theorem dX10_party_144 : decode cX10_party 144 = .ok (.iload 4, 2) := by decide +kernel
theorem dX10_party_146 : decode cX10_party 146 = .ok (.iload_n 2, 1) := by decide +kernel
theorem dX10_party_147 : decode cX10_party 147 = .ok (.invokevirtual 81, 3) := by decide +kernel
theorem dX10_party_150 : decode cX10_party 150 = .ok (.ireturn, 1) := by decide +kernel
theorem dX10_party_151 : decode cX10_party 151 = .ok (.bipush (-2), 2) := by decide +kernel
theorem dX10_party_153 : decode cX10_party 153 = .ok (.ireturn, 1) := by decide +kernel
theorem dX10_reach_0 : decode cX10_reach 0 = .ok (.aload_n 0, 1) := by decide +kernel
theorem dX10_reach_1 : decode cX10_reach 1 = .ok (.iload_n 1, 1) := by decide +kernel
theorem dX10_reach_2 : decode cX10_reach 2 = .ok (.invokevirtual 116, 3) := by decide +kernel
theorem dX10_reach_5 : decode cX10_reach 5 = .ok (.ifCond .eq 16, 3) := by decide +kernel
theorem dX10_reach_8 : decode cX10_reach 8 = .ok (.aload_n 0, 1) := by decide +kernel
theorem dX10_reach_9 : decode cX10_reach 9 = .ok (.iconst 0, 1) := by decide +kernel
theorem dX10_reach_10 : decode cX10_reach 10 = .ok (.iconst 0, 1) := by decide +kernel
theorem dX10_reach_11 : decode cX10_reach 11 = .ok (.iload_n 1, 1) := by decide +kernel
theorem dX10_reach_12 : decode cX10_reach 12 = .ok (.invokestatic 109, 3) := by decide +kernel
theorem dX10_reach_15 : decode cX10_reach 15 = .ok (.invokevirtual 189, 3) := by decide +kernel
theorem dX10_reach_18 : decode cX10_reach 18 = .ok (.goto 5, 3) := by decide +kernel
theorem dX10_reach_21 : decode cX10_reach 21 = .ok (.bipush (-2), 2) := by decide +kernel
theorem dX10_reach_23 : decode cX10_reach 23 = .ok (.ireturn, 1) := by decide +kernel
theorem dX10_refused_0 : decode cX10_refused 0 = .ok (.aload_n 0, 1) := by decide +kernel
theorem dX10_refused_1 : decode cX10_refused 1 = .ok (.getfield 7, 3) := by decide +kernel
theorem dX10_refused_4 : decode cX10_refused 4 = .ok (.iconst 5, 1) := by decide +kernel
theorem dX10_refused_5 : decode cX10_refused 5 = .ok (.iaload, 1) := by decide +kernel
theorem dX10_refused_6 : decode cX10_refused 6 = .ok (.ireturn, 1) := by decide +kernel
theorem dX10_run_0 : decode cX10_run 0 = .ok (.aload_n 0, 1) := by decide +kernel
theorem dX10_run_1 : decode cX10_run 1 = .ok (.iload_n 1, 1) := by decide +kernel
theorem dX10_run_2 : decode cX10_run 2 = .ok (.invokevirtual 116, 3) := by decide +kernel
theorem dX10_run_5 : decode cX10_run 5 = .ok (.ifCond .ne 6, 3) := by decide +kernel
theorem dX10_run_8 : decode cX10_run 8 = .ok (.bipush (-2), 2) := by decide +kernel
theorem dX10_run_10 : decode cX10_run 10 = .ok (.ireturn, 1) := by decide +kernel
theorem dX10_run_11 : decode cX10_run 11 = .ok (.aload_n 0, 1) := by decide +kernel
theorem dX10_run_12 : decode cX10_run 12 = .ok (.iload_n 1, 1) := by decide +kernel
theorem dX10_run_13 : decode cX10_run 13 = .ok (.invokevirtual 198, 3) := by decide +kernel
theorem dX10_run_16 : decode cX10_run 16 = .ok (.istore_n 3, 1) := by decide +kernel
theorem dX10_run_17 : decode cX10_run 17 = .ok (.iload_n 2, 1) := by decide +kernel
theorem dX10_run_18 : decode cX10_run 18 = .ok (.iconst (-1), 1) := by decide +kernel
theorem dX10_run_19 : decode cX10_run 19 = .ok (.if_icmp .ne 7, 3) := by decide +kernel
theorem dX10_run_22 : decode cX10_run 22 = .ok (.iload_n 3, 1) := by decide +kernel
theorem dX10_run_23 : decode cX10_run 23 = .ok (.goto 25, 3) := by decide +kernel
theorem dX10_run_26 : decode cX10_run 26 = .ok (.iload_n 2, 1) := by decide +kernel
theorem dX10_run_27 : decode cX10_run 27 = .ok (.iconst 0, 1) := by decide +kernel
theorem dX10_run_28 : decode cX10_run 28 = .ok (.iload_n 3, 1) := by decide +kernel
theorem dX10_run_29 : decode cX10_run 29 = .ok (.iconst 1, 1) := by decide +kernel
theorem dX10_run_30 : decode cX10_run 30 = .ok (.isub, 1) := by decide +kernel
theorem dX10_run_31 : decode cX10_run 31 = .ok (.invokestatic 33, 3) := by decide +kernel
theorem dX10_run_34 : decode cX10_run 34 = .ok (.ifCond .eq 12, 3) := by decide +kernel
theorem dX10_run_37 : decode cX10_run 37 = .ok (.aload_n 0, 1) := by decide +kernel
theorem dX10_run_38 : decode cX10_run 38 = .ok (.getfield 24, 3) := by decide +kernel
theorem dX10_run_41 : decode cX10_run 41 = .ok (.iload_n 2, 1) := by decide +kernel
theorem dX10_run_42 : decode cX10_run 42 = .ok (.iaload, 1) := by decide +kernel
theorem dX10_run_43 : decode cX10_run 43 = .ok (.goto 5, 3) := by decide +kernel
theorem dX10_run_46 : decode cX10_run 46 = .ok (.bipush (-2), 2) := by decide +kernel
theorem dX10_run_48 : decode cX10_run 48 = .ok (.ireturn, 1) := by decide +kernel
theorem dX10_sorts_0 : decode cX10_sorts 0 = .ok (.aload_n 0, 1) := by decide +kernel
theorem dX10_sorts_1 : decode cX10_sorts 1 = .ok (.iload_n 1, 1) := by decide +kernel
theorem dX10_sorts_2 : decode cX10_sorts 2 = .ok (.invokevirtual 116, 3) := by decide +kernel
theorem dX10_sorts_5 : decode cX10_sorts 5 = .ok (.ifCond .ne 6, 3) := by decide +kernel
theorem dX10_sorts_8 : decode cX10_sorts 8 = .ok (.bipush (-2), 2) := by decide +kernel
theorem dX10_sorts_10 : decode cX10_sorts 10 = .ok (.ireturn, 1) := by decide +kernel
theorem dX10_sorts_11 : decode cX10_sorts 11 = .ok (.iconst 0, 1) := by decide +kernel
theorem dX10_sorts_12 : decode cX10_sorts 12 = .ok (.iload_n 1, 1) := by decide +kernel
theorem dX10_sorts_13 : decode cX10_sorts 13 = .ok (.invokestatic 109, 3) := by decide +kernel
theorem dX10_sorts_16 : decode cX10_sorts 16 = .ok (.istore_n 3, 1) := by decide +kernel
theorem dX10_sorts_17 : decode cX10_sorts 17 = .ok (.iconst 0, 1) := by decide +kernel
theorem dX10_sorts_18 : decode cX10_sorts 18 = .ok (.istore 4, 2) := by decide +kernel
theorem dX10_sorts_20 : decode cX10_sorts 20 = .ok (.iconst 0, 1) := by decide +kernel
theorem dX10_sorts_21 : decode cX10_sorts 21 = .ok (.istore 5, 2) := by decide +kernel
theorem dX10_sorts_23 : decode cX10_sorts 23 = .ok (.iload 5, 2) := by decide +kernel
theorem dX10_sorts_25 : decode cX10_sorts 25 = .ok (.aload_n 0, 1) := by decide +kernel
theorem dX10_sorts_26 : decode cX10_sorts 26 = .ok (.getfield 7, 3) := by decide +kernel
theorem dX10_sorts_29 : decode cX10_sorts 29 = .ok (.iload_n 3, 1) := by decide +kernel
theorem dX10_sorts_30 : decode cX10_sorts 30 = .ok (.bipush 8, 2) := by decide +kernel
theorem dX10_sorts_32 : decode cX10_sorts 32 = .ok (.iadd, 1) := by decide +kernel
theorem dX10_sorts_33 : decode cX10_sorts 33 = .ok (.iaload, 1) := by decide +kernel
theorem dX10_sorts_34 : decode cX10_sorts 34 = .ok (.if_icmp .ge 67, 3) := by decide +kernel
theorem dX10_sorts_37 : decode cX10_sorts 37 = .ok (.iload 4, 2) := by decide +kernel
theorem dX10_sorts_39 : decode cX10_sorts 39 = .ok (.iload_n 2, 1) := by decide +kernel
theorem dX10_sorts_40 : decode cX10_sorts 40 = .ok (.iconst 5, 1) := by decide +kernel
theorem dX10_sorts_41 : decode cX10_sorts 41 = .ok (.if_icmp .ne 20, 3) := by decide +kernel
theorem dX10_sorts_44 : decode cX10_sorts 44 = .ok (.aload_n 0, 1) := by decide +kernel
theorem dX10_sorts_45 : decode cX10_sorts 45 = .ok (.getfield 7, 3) := by decide +kernel
theorem dX10_sorts_48 : decode cX10_sorts 48 = .ok (.iload_n 3, 1) := by decide +kernel
theorem dX10_sorts_49 : decode cX10_sorts 49 = .ok (.iload 5, 2) := by decide +kernel
theorem dX10_sorts_51 : decode cX10_sorts 51 = .ok (.invokestatic 37, 3) := by decide +kernel
theorem dX10_sorts_54 : decode cX10_sorts 54 = .ok (.bipush 11, 2) := by decide +kernel
theorem dX10_sorts_56 : decode cX10_sorts 56 = .ok (.iadd, 1) := by decide +kernel
theorem dX10_sorts_57 : decode cX10_sorts 57 = .ok (.iaload, 1) := by decide +kernel
theorem dX10_sorts_58 : decode cX10_sorts 58 = .ok (.goto 34, 3) := by decide +kernel
theorem dX10_sorts_61 : decode cX10_sorts 61 = .ok (.iload_n 2, 1) := by decide +kernel
theorem dX10_sorts_62 : decode cX10_sorts 62 = .ok (.ifCond .lt 29, 3) := by decide +kernel
theorem dX10_sorts_65 : decode cX10_sorts 65 = .ok (.iload_n 2, 1) := by decide +kernel
theorem dX10_sorts_66 : decode cX10_sorts 66 = .ok (.iconst 5, 1) := by decide +kernel
theorem dX10_sorts_67 : decode cX10_sorts 67 = .ok (.if_icmp .ge 24, 3) := by decide +kernel
theorem dX10_sorts_70 : decode cX10_sorts 70 = .ok (.aload_n 0, 1) := by decide +kernel
theorem dX10_sorts_71 : decode cX10_sorts 71 = .ok (.getfield 7, 3) := by decide +kernel
theorem dX10_sorts_74 : decode cX10_sorts 74 = .ok (.iload_n 3, 1) := by decide +kernel
theorem dX10_sorts_75 : decode cX10_sorts 75 = .ok (.iload 5, 2) := by decide +kernel
theorem dX10_sorts_77 : decode cX10_sorts 77 = .ok (.invokestatic 37, 3) := by decide +kernel
theorem dX10_sorts_80 : decode cX10_sorts 80 = .ok (.iconst 0, 1) := by decide +kernel
theorem dX10_sorts_81 : decode cX10_sorts 81 = .ok (.iadd, 1) := by decide +kernel
theorem dX10_sorts_82 : decode cX10_sorts 82 = .ok (.iaload, 1) := by decide +kernel
theorem dX10_sorts_83 : decode cX10_sorts 83 = .ok (.iload_n 2, 1) := by decide +kernel
theorem dX10_sorts_84 : decode cX10_sorts 84 = .ok (.if_icmp .ne 7, 3) := by decide +kernel
theorem dX10_sorts_87 : decode cX10_sorts 87 = .ok (.iconst 1, 1) := by decide +kernel
theorem dX10_sorts_88 : decode cX10_sorts 88 = .ok (.goto 4, 3) := by decide +kernel
theorem dX10_sorts_91 : decode cX10_sorts 91 = .ok (.iconst 0, 1) := by decide +kernel
theorem dX10_sorts_92 : decode cX10_sorts 92 = .ok (.iadd, 1) := by decide +kernel
theorem dX10_sorts_93 : decode cX10_sorts 93 = .ok (.istore 4, 2) := by decide +kernel
theorem dX10_sorts_95 : decode cX10_sorts 95 = .ok (.iinc 5 1, 3) := by decide +kernel
theorem dX10_sorts_98 : decode cX10_sorts 98 = .ok (.goto (-75), 3) := by decide +kernel
theorem dX10_sorts_101 : decode cX10_sorts 101 = .ok (.iload_n 2, 1) := by decide +kernel
theorem dX10_sorts_102 : decode cX10_sorts 102 = .ok (.iconst 0, 1) := by decide +kernel
theorem dX10_sorts_103 : decode cX10_sorts 103 = .ok (.iconst 5, 1) := by decide +kernel
theorem dX10_sorts_104 : decode cX10_sorts 104 = .ok (.invokestatic 33, 3) := by decide +kernel
theorem dX10_sorts_107 : decode cX10_sorts 107 = .ok (.ifCond .eq 8, 3) := by decide +kernel
