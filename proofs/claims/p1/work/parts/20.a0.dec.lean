theorem dX10_accept_0 : decode cX10_accept 0 = .ok (.aload_n 0, 1) := by decide +kernel
theorem dX10_accept_1 : decode cX10_accept 1 = .ok (.aload_n 0, 1) := by decide +kernel
theorem dX10_accept_2 : decode cX10_accept 2 = .ok (.iload_n 1, 1) := by decide +kernel
theorem dX10_accept_3 : decode cX10_accept 3 = .ok (.invokevirtual 119, 3) := by decide +kernel
theorem dX10_accept_6 : decode cX10_accept 6 = .ok (.invokevirtual 97, 3) := by decide +kernel
theorem dX10_accept_9 : decode cX10_accept 9 = .ok (.ireturn, 1) := by decide +kernel
theorem dX10_accepts_0 : decode cX10_accepts 0 = .ok (.aload_n 0, 1) := by decide +kernel
theorem dX10_accepts_1 : decode cX10_accepts 1 = .ok (.iload_n 1, 1) := by decide +kernel
theorem dX10_accepts_2 : decode cX10_accepts 2 = .ok (.invokevirtual 116, 3) := by decide +kernel
theorem dX10_accepts_5 : decode cX10_accepts 5 = .ok (.ifCond .ne 6, 3) := by decide +kernel
theorem dX10_accepts_8 : decode cX10_accepts 8 = .ok (.bipush 30, 2) := by decide +kernel
theorem dX10_accepts_10 : decode cX10_accepts 10 = .ok (.ireturn, 1) := by decide +kernel
theorem dX10_again_0 : decode cX10_again 0 = .ok (.iload_n 1, 1) := by decide +kernel
theorem dX10_again_1 : decode cX10_again 1 = .ok (.iconst 0, 1) := by decide +kernel
theorem dX10_again_2 : decode cX10_again 2 = .ok (.iconst 2, 1) := by decide +kernel
theorem dX10_again_3 : decode cX10_again 3 = .ok (.invokestatic 33, 3) := by decide +kernel
theorem dX10_again_6 : decode cX10_again 6 = .ok (.ifCond .eq 12, 3) := by decide +kernel
theorem dX10_again_9 : decode cX10_again 9 = .ok (.aload_n 0, 1) := by decide +kernel
theorem dX10_again_10 : decode cX10_again 10 = .ok (.getfield 16, 3) := by decide +kernel
theorem dX10_again_13 : decode cX10_again 13 = .ok (.iload_n 1, 1) := by decide +kernel
theorem dX10_again_14 : decode cX10_again 14 = .ok (.baload, 1) := by decide +kernel
theorem dX10_again_15 : decode cX10_again 15 = .ok (.ifCond .ne 5, 3) := by decide +kernel
theorem dX10_again_18 : decode cX10_again 18 = .ok (.iconst 0, 1) := by decide +kernel
theorem dX10_again_19 : decode cX10_again 19 = .ok (.ireturn, 1) := by decide +kernel
theorem dX10_at_0 : decode cX10_at 0 = .ok (.iload_n 0, 1) := by decide +kernel
theorem dX10_at_1 : decode cX10_at 1 = .ok (.bipush 20, 2) := by decide +kernel
theorem dX10_at_3 : decode cX10_at 3 = .ok (.iadd, 1) := by decide +kernel
theorem dX10_at_4 : decode cX10_at 4 = .ok (.sipush 280, 3) := by decide +kernel
theorem dX10_at_7 : decode cX10_at 7 = .ok (.iload_n 1, 1) := by decide +kernel
theorem dX10_at_8 : decode cX10_at 8 = .ok (.imul, 1) := by decide +kernel
theorem dX10_at_9 : decode cX10_at 9 = .ok (.iadd, 1) := by decide +kernel
theorem dX10_at_10 : decode cX10_at 10 = .ok (.ireturn, 1) := by decide +kernel
theorem dX10_bill_0 : decode cX10_bill 0 = .ok (.aload_n 0, 1) := by decide +kernel
theorem dX10_bill_1 : decode cX10_bill 1 = .ok (.iload_n 1, 1) := by decide +kernel
theorem dX10_bill_2 : decode cX10_bill 2 = .ok (.invokevirtual 116, 3) := by decide +kernel
theorem dX10_bill_5 : decode cX10_bill 5 = .ok (.ifCond .eq 13, 3) := by decide +kernel
theorem dX10_bill_18 : decode cX10_bill 18 = .ok (.bipush (-2), 2) := by decide +kernel
theorem dX10_bill_20 : decode cX10_bill 20 = .ok (.ireturn, 1) := by decide +kernel
theorem dX10_billsThat_0 : decode cX10_billsThat 0 = .ok (.iconst 0, 1) := by decide +kernel
theorem dX10_billsThat_1 : decode cX10_billsThat 1 = .ok (.istore_n 2, 1) := by decide +kernel
theorem dX10_billsThat_2 : decode cX10_billsThat 2 = .ok (.iconst 0, 1) := by decide +kernel
theorem dX10_billsThat_3 : decode cX10_billsThat 3 = .ok (.istore_n 3, 1) := by decide +kernel
theorem dX10_billsThat_4 : decode cX10_billsThat 4 = .ok (.iload_n 3, 1) := by decide +kernel
theorem dX10_billsThat_5 : decode cX10_billsThat 5 = .ok (.aload_n 0, 1) := by decide +kernel
theorem dX10_billsThat_6 : decode cX10_billsThat 6 = .ok (.getfield 7, 3) := by decide +kernel
theorem dX10_billsThat_9 : decode cX10_billsThat 9 = .ok (.iconst 1, 1) := by decide +kernel
theorem dX10_billsThat_10 : decode cX10_billsThat 10 = .ok (.iaload, 1) := by decide +kernel
theorem dX10_billsThat_11 : decode cX10_billsThat 11 = .ok (.if_icmp .ge 55, 3) := by decide +kernel
theorem dX10_billsThat_66 : decode cX10_billsThat 66 = .ok (.iload_n 2, 1) := by decide +kernel
theorem dX10_billsThat_67 : decode cX10_billsThat 67 = .ok (.ireturn, 1) := by decide +kernel
theorem dX10_cash_0 : decode cX10_cash 0 = .ok (.aload_n 0, 1) := by decide +kernel
theorem dX10_cash_1 : decode cX10_cash 1 = .ok (.aload_n 0, 1) := by decide +kernel
theorem dX10_cash_2 : decode cX10_cash 2 = .ok (.iload_n 1, 1) := by decide +kernel
theorem dX10_cash_3 : decode cX10_cash 3 = .ok (.iload_n 2, 1) := by decide +kernel
theorem dX10_cash_4 : decode cX10_cash 4 = .ok (.invokevirtual 103, 3) := by decide +kernel
theorem dX10_cash_7 : decode cX10_cash 7 = .ok (.invokevirtual 97, 3) := by decide +kernel
theorem dX10_cash_10 : decode cX10_cash 10 = .ok (.ireturn, 1) := by decide +kernel
theorem dX10_count_0 : decode cX10_count 0 = .ok (.iload_n 1, 1) := by decide +kernel
theorem dX10_count_1 : decode cX10_count 1 = .ok (.bipush 10, 2) := by decide +kernel
theorem dX10_count_3 : decode cX10_count 3 = .ok (.bipush 17, 2) := by decide +kernel
theorem dX10_count_5 : decode cX10_count 5 = .ok (.invokestatic 33, 3) := by decide +kernel
theorem dX10_count_8 : decode cX10_count 8 = .ok (.ifCond .eq 16, 3) := by decide +kernel
theorem dX10_count_11 : decode cX10_count 11 = .ok (.aload_n 0, 1) := by decide +kernel
theorem dX10_count_12 : decode cX10_count 12 = .ok (.getfield 7, 3) := by decide +kernel
theorem dX10_count_15 : decode cX10_count 15 = .ok (.bipush 6, 2) := by decide +kernel
theorem dX10_count_17 : decode cX10_count 17 = .ok (.iload_n 1, 1) := by decide +kernel
theorem dX10_count_18 : decode cX10_count 18 = .ok (.iadd, 1) := by decide +kernel
theorem dX10_count_19 : decode cX10_count 19 = .ok (.bipush 10, 2) := by decide +kernel
theorem dX10_count_21 : decode cX10_count 21 = .ok (.isub, 1) := by decide +kernel
theorem dX10_count_22 : decode cX10_count 22 = .ok (.iaload, 1) := by decide +kernel
theorem dX10_count_23 : decode cX10_count 23 = .ok (.ireturn, 1) := by decide +kernel
theorem dX10_count_24 : decode cX10_count 24 = .ok (.iload_n 1, 1) := by decide +kernel
theorem dX10_count_25 : decode cX10_count 25 = .ok (.tableswitch 134 0 8 #[51, 58, 65, 72, 102, 109, 115, 122, 129], 51) := by decide +kernel
theorem dX10_count_76 : decode cX10_count 76 = .ok (.aload_n 0, 1) := by decide +kernel
theorem dX10_count_77 : decode cX10_count 77 = .ok (.getfield 7, 3) := by decide +kernel
theorem dX10_count_80 : decode cX10_count 80 = .ok (.iconst 0, 1) := by decide +kernel
theorem dX10_count_81 : decode cX10_count 81 = .ok (.iaload, 1) := by decide +kernel
theorem dX10_count_82 : decode cX10_count 82 = .ok (.ireturn, 1) := by decide +kernel
theorem dX10_count_83 : decode cX10_count 83 = .ok (.aload_n 0, 1) := by decide +kernel
theorem dX10_count_84 : decode cX10_count 84 = .ok (.getfield 7, 3) := by decide +kernel
theorem dX10_count_87 : decode cX10_count 87 = .ok (.iconst 1, 1) := by decide +kernel
theorem dX10_count_88 : decode cX10_count 88 = .ok (.iaload, 1) := by decide +kernel
theorem dX10_count_89 : decode cX10_count 89 = .ok (.ireturn, 1) := by decide +kernel
theorem dX10_count_90 : decode cX10_count 90 = .ok (.aload_n 0, 1) := by decide +kernel
theorem dX10_count_91 : decode cX10_count 91 = .ok (.getfield 7, 3) := by decide +kernel
theorem dX10_count_94 : decode cX10_count 94 = .ok (.iconst 2, 1) := by decide +kernel
theorem dX10_count_95 : decode cX10_count 95 = .ok (.iaload, 1) := by decide +kernel
theorem dX10_count_96 : decode cX10_count 96 = .ok (.ireturn, 1) := by decide +kernel
theorem dX10_count_97 : decode cX10_count 97 = .ok (.iconst 0, 1) := by decide +kernel
theorem dX10_count_98 : decode cX10_count 98 = .ok (.istore_n 2, 1) := by decide +kernel
theorem dX10_count_99 : decode cX10_count 99 = .ok (.iconst 0, 1) := by decide +kernel
theorem dX10_count_100 : decode cX10_count 100 = .ok (.istore_n 3, 1) := by decide +kernel
theorem dX10_count_101 : decode cX10_count 101 = .ok (.iload_n 3, 1) := by decide +kernel
theorem dX10_count_102 : decode cX10_count 102 = .ok (.bipush 8, 2) := by decide +kernel
theorem dX10_count_104 : decode cX10_count 104 = .ok (.if_icmp .ge 21, 3) := by decide +kernel
theorem dX10_count_107 : decode cX10_count 107 = .ok (.iload_n 2, 1) := by decide +kernel
theorem dX10_count_108 : decode cX10_count 108 = .ok (.aload_n 0, 1) := by decide +kernel
theorem dX10_count_109 : decode cX10_count 109 = .ok (.getfield 7, 3) := by decide +kernel
theorem dX10_count_112 : decode cX10_count 112 = .ok (.bipush 6, 2) := by decide +kernel
theorem dX10_count_114 : decode cX10_count 114 = .ok (.iload_n 3, 1) := by decide +kernel
theorem dX10_count_115 : decode cX10_count 115 = .ok (.iadd, 1) := by decide +kernel
theorem dX10_count_116 : decode cX10_count 116 = .ok (.iaload, 1) := by decide +kernel
theorem dX10_count_117 : decode cX10_count 117 = .ok (.iadd, 1) := by decide +kernel
theorem dX10_count_118 : decode cX10_count 118 = .ok (.istore_n 2, 1) := by decide +kernel
theorem dX10_count_119 : decode cX10_count 119 = .ok (.iinc 3 1, 3) := by decide +kernel
theorem dX10_count_122 : decode cX10_count 122 = .ok (.goto (-21), 3) := by decide +kernel
theorem dX10_count_125 : decode cX10_count 125 = .ok (.iload_n 2, 1) := by decide +kernel
theorem dX10_count_126 : decode cX10_count 126 = .ok (.ireturn, 1) := by decide +kernel
theorem dX10_count_127 : decode cX10_count 127 = .ok (.aload_n 0, 1) := by decide +kernel
theorem dX10_count_128 : decode cX10_count 128 = .ok (.getfield 7, 3) := by decide +kernel
theorem dX10_count_131 : decode cX10_count 131 = .ok (.iconst 3, 1) := by decide +kernel
theorem dX10_count_132 : decode cX10_count 132 = .ok (.iaload, 1) := by decide +kernel
theorem dX10_count_133 : decode cX10_count 133 = .ok (.ireturn, 1) := by decide +kernel
theorem dX10_count_134 : decode cX10_count 134 = .ok (.aload_n 0, 1) := by decide +kernel
theorem dX10_count_135 : decode cX10_count 135 = .ok (.iconst 5, 1) := by decide +kernel
theorem dX10_count_136 : decode cX10_count 136 = .ok (.invokevirtual 177, 3) := by decide +kernel
theorem dX10_count_139 : decode cX10_count 139 = .ok (.ireturn, 1) := by decide +kernel
theorem dX10_count_140 : decode cX10_count 140 = .ok (.aload_n 0, 1) := by decide +kernel
theorem dX10_count_141 : decode cX10_count 141 = .ok (.bipush 6, 2) := by decide +kernel
theorem dX10_count_143 : decode cX10_count 143 = .ok (.invokevirtual 177, 3) := by decide +kernel
theorem dX10_count_146 : decode cX10_count 146 = .ok (.ireturn, 1) := by decide +kernel
theorem dX10_count_147 : decode cX10_count 147 = .ok (.aload_n 0, 1) := by decide +kernel
theorem dX10_count_148 : decode cX10_count 148 = .ok (.getfield 7, 3) := by decide +kernel
theorem dX10_count_151 : decode cX10_count 151 = .ok (.iconst 4, 1) := by decide +kernel
theorem dX10_count_152 : decode cX10_count 152 = .ok (.iaload, 1) := by decide +kernel
theorem dX10_count_153 : decode cX10_count 153 = .ok (.ireturn, 1) := by decide +kernel
theorem dX10_count_154 : decode cX10_count 154 = .ok (.aload_n 0, 1) := by decide +kernel
theorem dX10_count_155 : decode cX10_count 155 = .ok (.getfield 180, 3) := by decide +kernel
theorem dX10_count_158 : decode cX10_count 158 = .ok (.ireturn, 1) := by decide +kernel
theorem dX10_count_159 : decode cX10_count 159 = .ok (.iconst (-1), 1) := by decide +kernel
theorem dX10_count_160 : decode cX10_count 160 = .ok (.ireturn, 1) := by decide +kernel
theorem dX10_day_0 : decode cX10_day 0 = .ok (.aload_n 0, 1) := by decide +kernel
theorem dX10_day_1 : decode cX10_day 1 = .ok (.aload_n 0, 1) := by decide +kernel
theorem dX10_day_2 : decode cX10_day 2 = .ok (.iload_n 1, 1) := by decide +kernel
theorem dX10_day_3 : decode cX10_day 3 = .ok (.invokevirtual 94, 3) := by decide +kernel
theorem dX10_day_6 : decode cX10_day 6 = .ok (.invokevirtual 97, 3) := by decide +kernel
theorem dX10_day_9 : decode cX10_day 9 = .ok (.ireturn, 1) := by decide +kernel
theorem dX10_days_0 : decode cX10_days 0 = .ok (.iload_n 1, 1) := by decide +kernel
theorem dX10_days_1 : decode cX10_days 1 = .ok (.iconst 1, 1) := by decide +kernel
theorem dX10_days_2 : decode cX10_days 2 = .ok (.bipush 99, 2) := by decide +kernel
theorem dX10_days_4 : decode cX10_days 4 = .ok (.invokestatic 33, 3) := by decide +kernel
theorem dX10_days_7 : decode cX10_days 7 = .ok (.ifCond .eq 17, 3) := by decide +kernel
theorem dX10_days_10 : decode cX10_days 10 = .ok (.aload_n 0, 1) := by decide +kernel
theorem dX10_days_11 : decode cX10_days 11 = .ok (.getfield 7, 3) := by decide +kernel
theorem dX10_days_14 : decode cX10_days 14 = .ok (.iconst 0, 1) := by decide +kernel
theorem dX10_days_15 : decode cX10_days 15 = .ok (.iaload, 1) := by decide +kernel
theorem dX10_days_16 : decode cX10_days 16 = .ok (.iload_n 1, 1) := by decide +kernel
theorem dX10_days_17 : decode cX10_days 17 = .ok (.iadd, 1) := by decide +kernel
theorem dX10_days_18 : decode cX10_days 18 = .ok (.sipush 999, 3) := by decide +kernel
theorem dX10_days_21 : decode cX10_days 21 = .ok (.if_icmp .le 6, 3) := by decide +kernel
theorem dX10_days_24 : decode cX10_days 24 = .ok (.bipush 30, 2) := by decide +kernel
theorem dX10_days_26 : decode cX10_days 26 = .ok (.ireturn, 1) := by decide +kernel
theorem dX10_days_27 : decode cX10_days 27 = .ok (.aload_n 0, 1) := by decide +kernel
theorem dX10_days_28 : decode cX10_days 28 = .ok (.getfield 7, 3) := by decide +kernel
theorem dX10_days_31 : decode cX10_days 31 = .ok (.iconst 0, 1) := by decide +kernel
theorem dX10_days_32 : decode cX10_days 32 = .ok (.dup2, 1) := by decide +kernel
theorem dX10_days_33 : decode cX10_days 33 = .ok (.iaload, 1) := by decide +kernel
theorem dX10_days_34 : decode cX10_days 34 = .ok (.iload_n 1, 1) := by decide +kernel
theorem dX10_days_35 : decode cX10_days 35 = .ok (.iadd, 1) := by decide +kernel
theorem dX10_days_36 : decode cX10_days 36 = .ok (.iastore, 1) := by decide +kernel
theorem dX10_days_37 : decode cX10_days 37 = .ok (.iconst 0, 1) := by decide +kernel
theorem dX10_days_38 : decode cX10_days 38 = .ok (.ireturn, 1) := by decide +kernel
theorem dX10_defend_0 : decode cX10_defend 0 = .ok (.aload_n 0, 1) := by decide +kernel
theorem dX10_defend_1 : decode cX10_defend 1 = .ok (.aload_n 0, 1) := by decide +kernel
theorem dX10_defend_2 : decode cX10_defend 2 = .ok (.iload_n 1, 1) := by decide +kernel
theorem dX10_defend_3 : decode cX10_defend 3 = .ok (.iload_n 2, 1) := by decide +kernel
theorem dX10_defend_4 : decode cX10_defend 4 = .ok (.iload_n 3, 1) := by decide +kernel
theorem dX10_defend_5 : decode cX10_defend 5 = .ok (.invokevirtual 146, 3) := by decide +kernel
theorem dX10_defend_8 : decode cX10_defend 8 = .ok (.invokevirtual 97, 3) := by decide +kernel
theorem dX10_defend_11 : decode cX10_defend 11 = .ok (.ireturn, 1) := by decide +kernel
theorem dX10_defends_0 : decode cX10_defends 0 = .ok (.aload_n 0, 1) := by decide +kernel
theorem dX10_defends_1 : decode cX10_defends 1 = .ok (.iload_n 1, 1) := by decide +kernel
theorem dX10_defends_2 : decode cX10_defends 2 = .ok (.iload_n 2, 1) := by decide +kernel
theorem dX10_defends_3 : decode cX10_defends 3 = .ok (.invokevirtual 143, 3) := by decide +kernel
theorem dX10_defends_6 : decode cX10_defends 6 = .ok (.ifCond .ne 6, 3) := by decide +kernel
theorem dX10_defends_9 : decode cX10_defends 9 = .ok (.bipush 30, 2) := by decide +kernel
theorem dX10_defends_11 : decode cX10_defends 11 = .ok (.ireturn, 1) := by decide +kernel
theorem dX10_end_0 : decode cX10_end 0 = .ok (.iload_n 1, 1) := by decide +kernel
theorem dX10_end_1 : decode cX10_end 1 = .ok (.iconst 0, 1) := by decide +kernel
theorem dX10_end_2 : decode cX10_end 2 = .ok (.aload_n 0, 1) := by decide +kernel
theorem dX10_end_3 : decode cX10_end 3 = .ok (.getfield 180, 3) := by decide +kernel
theorem dX10_end_6 : decode cX10_end 6 = .ok (.invokestatic 33, 3) := by decide +kernel
theorem dX10_end_9 : decode cX10_end 9 = .ok (.ifCond .ne 5, 3) := by decide +kernel
theorem dX10_end_12 : decode cX10_end 12 = .ok (.iconst (-1), 1) := by decide +kernel
theorem dX10_end_13 : decode cX10_end 13 = .ok (.ireturn, 1) := by decide +kernel
theorem dX10_end_14 : decode cX10_end 14 = .ok (.aload_n 0, 1) := by decide +kernel
theorem dX10_end_15 : decode cX10_end 15 = .ok (.iload_n 1, 1) := by decide +kernel
theorem dX10_end_16 : decode cX10_end 16 = .ok (.putfield 180, 3) := by decide +kernel
theorem dX10_end_19 : decode cX10_end 19 = .ok (.iload_n 1, 1) := by decide +kernel
theorem dX10_end_20 : decode cX10_end 20 = .ok (.ireturn, 1) := by decide +kernel
theorem dX10_ends_0 : decode cX10_ends 0 = .ok (.aload_n 0, 1) := by decide +kernel
theorem dX10_ends_1 : decode cX10_ends 1 = .ok (.iload_n 1, 1) := by decide +kernel
theorem dX10_ends_2 : decode cX10_ends 2 = .ok (.invokevirtual 116, 3) := by decide +kernel
theorem dX10_ends_5 : decode cX10_ends 5 = .ok (.ifCond .ne 5, 3) := by decide +kernel
theorem dX10_ends_8 : decode cX10_ends 8 = .ok (.iconst (-1), 1) := by decide +kernel
theorem dX10_ends_9 : decode cX10_ends 9 = .ok (.ireturn, 1) := by decide +kernel
theorem dX10_fault_0 : decode cX10_fault 0 = .ok (.aload_n 0, 1) := by decide +kernel
theorem dX10_fault_1 : decode cX10_fault 1 = .ok (.getfield 20, 3) := by decide +kernel
theorem dX10_fault_4 : decode cX10_fault 4 = .ok (.ireturn, 1) := by decide +kernel
theorem dX10_find_0 : decode cX10_find 0 = .ok (.aload_n 0, 1) := by decide +kernel
theorem dX10_find_1 : decode cX10_find 1 = .ok (.aload_n 0, 1) := by decide +kernel
theorem dX10_find_2 : decode cX10_find 2 = .ok (.iload_n 1, 1) := by decide +kernel
theorem dX10_find_3 : decode cX10_find 3 = .ok (.iload_n 2, 1) := by decide +kernel
theorem dX10_find_4 : decode cX10_find 4 = .ok (.invokevirtual 137, 3) := by decide +kernel
theorem dX10_find_7 : decode cX10_find 7 = .ok (.invokevirtual 97, 3) := by decide +kernel
theorem dX10_find_10 : decode cX10_find 10 = .ok (.ireturn, 1) := by decide +kernel
theorem dX10_finds_0 : decode cX10_finds 0 = .ok (.aload_n 0, 1) := by decide +kernel
theorem dX10_finds_1 : decode cX10_finds 1 = .ok (.iload_n 1, 1) := by decide +kernel
theorem dX10_finds_2 : decode cX10_finds 2 = .ok (.iload_n 2, 1) := by decide +kernel
theorem dX10_finds_3 : decode cX10_finds 3 = .ok (.iconst 0, 1) := by decide +kernel
theorem dX10_finds_4 : decode cX10_finds 4 = .ok (.invokevirtual 122, 3) := by decide +kernel
theorem dX10_finds_7 : decode cX10_finds 7 = .ok (.istore_n 3, 1) := by decide +kernel
theorem dX10_finds_8 : decode cX10_finds 8 = .ok (.iload_n 3, 1) := by decide +kernel
theorem dX10_finds_9 : decode cX10_finds 9 = .ok (.ifCond .le 7, 3) := by decide +kernel
theorem dX10_finds_12 : decode cX10_finds 12 = .ok (.iload_n 3, 1) := by decide +kernel
theorem dX10_finds_13 : decode cX10_finds 13 = .ok (.goto 20, 3) := by decide +kernel
theorem dX10_finds_33 : decode cX10_finds 33 = .ok (.ireturn, 1) := by decide +kernel
theorem dX10_forge_0 : decode cX10_forge 0 = .ok (.aload_n 0, 1) := by decide +kernel
theorem dX10_forge_1 : decode cX10_forge 1 = .ok (.aload_n 0, 1) := by decide +kernel
theorem dX10_forge_2 : decode cX10_forge 2 = .ok (.iload_n 1, 1) := by decide +kernel
theorem dX10_forge_3 : decode cX10_forge 3 = .ok (.iload_n 2, 1) := by decide +kernel
theorem dX10_forge_4 : decode cX10_forge 4 = .ok (.iload_n 3, 1) := by decide +kernel
theorem dX10_forge_5 : decode cX10_forge 5 = .ok (.iload 4, 2) := by decide +kernel
theorem dX10_forge_7 : decode cX10_forge 7 = .ok (.iload 5, 2) := by decide +kernel
theorem dX10_forge_9 : decode cX10_forge 9 = .ok (.invokevirtual 133, 3) := by decide +kernel
theorem dX10_forge_12 : decode cX10_forge 12 = .ok (.invokevirtual 97, 3) := by decide +kernel
theorem dX10_forge_15 : decode cX10_forge 15 = .ok (.ireturn, 1) := by decide +kernel
theorem dX10_forges_0 : decode cX10_forges 0 = .ok (.aload_n 0, 1) := by decide +kernel
theorem dX10_forges_1 : decode cX10_forges 1 = .ok (.iload_n 1, 1) := by decide +kernel
theorem dX10_forges_2 : decode cX10_forges 2 = .ok (.invokevirtual 116, 3) := by decide +kernel
theorem dX10_forges_5 : decode cX10_forges 5 = .ok (.ifCond .eq 27, 3) := by decide +kernel
theorem dX10_forges_32 : decode cX10_forges 32 = .ok (.bipush 30, 2) := by decide +kernel
theorem dX10_forges_34 : decode cX10_forges 34 = .ok (.ireturn, 1) := by decide +kernel
theorem dX10_gains_0 : decode cX10_gains 0 = .ok (.aload_n 0, 1) := by decide +kernel
theorem dX10_gains_1 : decode cX10_gains 1 = .ok (.iload_n 1, 1) := by decide +kernel
theorem dX10_gains_2 : decode cX10_gains 2 = .ok (.invokevirtual 116, 3) := by decide +kernel
theorem dX10_gains_5 : decode cX10_gains 5 = .ok (.ifCond .eq 10, 3) := by decide +kernel
theorem dX10_gains_15 : decode cX10_gains 15 = .ok (.iconst 0, 1) := by decide +kernel
theorem dX10_gains_16 : decode cX10_gains 16 = .ok (.ireturn, 1) := by decide +kernel
theorem dX10_grace_0 : decode cX10_grace 0 = .ok (.aload_n 0, 1) := by decide +kernel
theorem dX10_grace_1 : decode cX10_grace 1 = .ok (.aload_n 0, 1) := by decide +kernel
theorem dX10_grace_2 : decode cX10_grace 2 = .ok (.iload_n 1, 1) := by decide +kernel
theorem dX10_grace_3 : decode cX10_grace 3 = .ok (.invokevirtual 106, 3) := by decide +kernel
theorem dX10_grace_6 : decode cX10_grace 6 = .ok (.invokevirtual 97, 3) := by decide +kernel
theorem dX10_grace_9 : decode cX10_grace 9 = .ok (.ireturn, 1) := by decide +kernel
theorem dX10_graces_0 : decode cX10_graces 0 = .ok (.iload_n 1, 1) := by decide +kernel
theorem dX10_graces_1 : decode cX10_graces 1 = .ok (.iconst 1, 1) := by decide +kernel
theorem dX10_graces_2 : decode cX10_graces 2 = .ok (.bipush 9, 2) := by decide +kernel
theorem dX10_graces_4 : decode cX10_graces 4 = .ok (.invokestatic 33, 3) := by decide +kernel
theorem dX10_graces_7 : decode cX10_graces 7 = .ok (.ifCond .ne 6, 3) := by decide +kernel
theorem dX10_graces_10 : decode cX10_graces 10 = .ok (.bipush 30, 2) := by decide +kernel
theorem dX10_graces_12 : decode cX10_graces 12 = .ok (.ireturn, 1) := by decide +kernel
theorem dX10_graces_13 : decode cX10_graces 13 = .ok (.aload_n 0, 1) := by decide +kernel
theorem dX10_graces_14 : decode cX10_graces 14 = .ok (.getfield 7, 3) := by decide +kernel
theorem dX10_graces_17 : decode cX10_graces 17 = .ok (.iconst 2, 1) := by decide +kernel
theorem dX10_graces_18 : decode cX10_graces 18 = .ok (.iload_n 1, 1) := by decide +kernel
theorem dX10_graces_19 : decode cX10_graces 19 = .ok (.iastore, 1) := by decide +kernel
theorem dX10_graces_20 : decode cX10_graces 20 = .ok (.iconst 0, 1) := by decide +kernel
theorem dX10_graces_21 : decode cX10_graces 21 = .ok (.ireturn, 1) := by decide +kernel
theorem dX10_hasNow_0 : decode cX10_hasNow 0 = .ok (.iload_n 1, 1) := by decide +kernel
theorem dX10_hasNow_1 : decode cX10_hasNow 1 = .ok (.invokestatic 100, 3) := by decide +kernel
theorem dX10_hasNow_4 : decode cX10_hasNow 4 = .ok (.ifCond .eq 14, 3) := by decide +kernel
theorem dX10_hasNow_7 : decode cX10_hasNow 7 = .ok (.iload_n 2, 1) := by decide +kernel
theorem dX10_hasNow_8 : decode cX10_hasNow 8 = .ok (.iconst 0, 1) := by decide +kernel
theorem dX10_hasNow_9 : decode cX10_hasNow 9 = .ok (.sipush 9999, 3) := by decide +kernel
theorem dX10_hasNow_12 : decode cX10_hasNow 12 = .ok (.invokestatic 33, 3) := by decide +kernel
theorem dX10_hasNow_15 : decode cX10_hasNow 15 = .ok (.ifCond .ne 6, 3) := by decide +kernel
theorem dX10_hasNow_18 : decode cX10_hasNow 18 = .ok (.bipush 30, 2) := by decide +kernel
theorem dX10_hasNow_20 : decode cX10_hasNow 20 = .ok (.ireturn, 1) := by decide +kernel
theorem dX10_hasNow_21 : decode cX10_hasNow 21 = .ok (.aload_n 0, 1) := by decide +kernel
theorem dX10_hasNow_22 : decode cX10_hasNow 22 = .ok (.getfield 7, 3) := by decide +kernel
theorem dX10_hasNow_25 : decode cX10_hasNow 25 = .ok (.bipush 6, 2) := by decide +kernel
theorem dX10_hasNow_27 : decode cX10_hasNow 27 = .ok (.iload_n 1, 1) := by decide +kernel
theorem dX10_hasNow_28 : decode cX10_hasNow 28 = .ok (.iadd, 1) := by decide +kernel
theorem dX10_hasNow_29 : decode cX10_hasNow 29 = .ok (.iload_n 2, 1) := by decide +kernel
theorem dX10_hasNow_30 : decode cX10_hasNow 30 = .ok (.iastore, 1) := by decide +kernel
theorem dX10_hasNow_31 : decode cX10_hasNow 31 = .ok (.iconst 0, 1) := by decide +kernel
theorem dX10_hasNow_32 : decode cX10_hasNow 32 = .ok (.ireturn, 1) := by decide +kernel
theorem dX10_isBill_0 : decode cX10_isBill 0 = .ok (.iload_n 1, 1) := by decide +kernel
theorem dX10_isBill_1 : decode cX10_isBill 1 = .ok (.iconst 0, 1) := by decide +kernel
theorem dX10_isBill_2 : decode cX10_isBill 2 = .ok (.aload_n 0, 1) := by decide +kernel
theorem dX10_isBill_3 : decode cX10_isBill 3 = .ok (.getfield 7, 3) := by decide +kernel
theorem dX10_isBill_6 : decode cX10_isBill 6 = .ok (.iconst 1, 1) := by decide +kernel
theorem dX10_isBill_7 : decode cX10_isBill 7 = .ok (.iaload, 1) := by decide +kernel
theorem dX10_isBill_8 : decode cX10_isBill 8 = .ok (.iconst 1, 1) := by decide +kernel
theorem dX10_isBill_9 : decode cX10_isBill 9 = .ok (.isub, 1) := by decide +kernel
theorem dX10_isBill_10 : decode cX10_isBill 10 = .ok (.invokestatic 33, 3) := by decide +kernel
theorem dX10_isBill_13 : decode cX10_isBill 13 = .ok (.ireturn, 1) := by decide +kernel
theorem dX10_isIn_0 : decode cX10_isIn 0 = .ok (.iload_n 0, 1) := by decide +kernel
theorem dX10_isIn_1 : decode cX10_isIn 1 = .ok (.iload_n 1, 1) := by decide +kernel
theorem dX10_isIn_2 : decode cX10_isIn 2 = .ok (.if_icmp .lt 12, 3) := by decide +kernel
theorem dX10_isIn_5 : decode cX10_isIn 5 = .ok (.iload_n 0, 1) := by decide +kernel
theorem dX10_isIn_6 : decode cX10_isIn 6 = .ok (.iload_n 2, 1) := by decide +kernel
theorem dX10_isIn_7 : decode cX10_isIn 7 = .ok (.if_icmp .gt 7, 3) := by decide +kernel
theorem dX10_isIn_10 : decode cX10_isIn 10 = .ok (.iconst 1, 1) := by decide +kernel
theorem dX10_isIn_11 : decode cX10_isIn 11 = .ok (.goto 4, 3) := by decide +kernel
theorem dX10_isIn_14 : decode cX10_isIn 14 = .ok (.iconst 0, 1) := by decide +kernel
theorem dX10_isIn_15 : decode cX10_isIn 15 = .ok (.ireturn, 1) := by decide +kernel
theorem dX10_isPerson_0 : decode cX10_isPerson 0 = .ok (.iload_n 0, 1) := by decide +kernel
theorem dX10_isPerson_1 : decode cX10_isPerson 1 = .ok (.iconst 0, 1) := by decide +kernel
theorem dX10_isPerson_2 : decode cX10_isPerson 2 = .ok (.bipush 7, 2) := by decide +kernel
theorem dX10_isPerson_4 : decode cX10_isPerson 4 = .ok (.invokestatic 33, 3) := by decide +kernel
theorem dX10_isPerson_7 : decode cX10_isPerson 7 = .ok (.ireturn, 1) := by decide +kernel
theorem dX10_isSigned_0 : decode cX10_isSigned 0 = .ok (.aload_n 0, 1) := by decide +kernel
theorem dX10_isSigned_1 : decode cX10_isSigned 1 = .ok (.iload_n 1, 1) := by decide +kernel
theorem dX10_isSigned_2 : decode cX10_isSigned 2 = .ok (.invokevirtual 116, 3) := by decide +kernel
theorem dX10_isSigned_5 : decode cX10_isSigned 5 = .ok (.ifCond .eq 33, 3) := by decide +kernel
theorem dX10_isSigned_38 : decode cX10_isSigned 38 = .ok (.iconst 0, 1) := by decide +kernel
theorem dX10_isSigned_39 : decode cX10_isSigned 39 = .ok (.ireturn, 1) := by decide +kernel
theorem dX10_isStep_0 : decode cX10_isStep 0 = .ok (.aload_n 0, 1) := by decide +kernel
theorem dX10_isStep_1 : decode cX10_isStep 1 = .ok (.iload_n 1, 1) := by decide +kernel
theorem dX10_isStep_2 : decode cX10_isStep 2 = .ok (.invokevirtual 116, 3) := by decide +kernel
theorem dX10_isStep_5 : decode cX10_isStep 5 = .ok (.ifCond .eq 30, 3) := by decide +kernel
theorem dX10_isStep_35 : decode cX10_isStep 35 = .ok (.iconst 0, 1) := by decide +kernel
theorem dX10_isStep_36 : decode cX10_isStep 36 = .ok (.ireturn, 1) := by decide +kernel
theorem dX10_liable_0 : decode cX10_liable 0 = .ok (.aload_n 0, 1) := by decide +kernel
theorem dX10_liable_1 : decode cX10_liable 1 = .ok (.iload_n 1, 1) := by decide +kernel
theorem dX10_liable_2 : decode cX10_liable 2 = .ok (.invokevirtual 116, 3) := by decide +kernel
theorem dX10_liable_5 : decode cX10_liable 5 = .ok (.ifCond .eq 16, 3) := by decide +kernel
theorem dX10_liable_21 : decode cX10_liable 21 = .ok (.bipush (-2), 2) := by decide +kernel
theorem dX10_liable_23 : decode cX10_liable 23 = .ok (.ireturn, 1) := by decide +kernel
theorem dX10_notifies_0 : decode cX10_notifies 0 = .ok (.aload_n 0, 1) := by decide +kernel
theorem dX10_notifies_1 : decode cX10_notifies 1 = .ok (.iload_n 1, 1) := by decide +kernel
theorem dX10_notifies_2 : decode cX10_notifies 2 = .ok (.iload_n 3, 1) := by decide +kernel
theorem dX10_notifies_3 : decode cX10_notifies 3 = .ok (.invokevirtual 143, 3) := by decide +kernel
theorem dX10_notifies_6 : decode cX10_notifies 6 = .ok (.ifCond .eq 7, 3) := by decide +kernel
theorem dX10_notifies_13 : decode cX10_notifies 13 = .ok (.bipush 30, 2) := by decide +kernel
theorem dX10_notifies_15 : decode cX10_notifies 15 = .ok (.ireturn, 1) := by decide +kernel
theorem dX10_owes_0 : decode cX10_owes 0 = .ok (.iload_n 1, 1) := by decide +kernel
theorem dX10_owes_1 : decode cX10_owes 1 = .ok (.invokestatic 100, 3) := by decide +kernel
theorem dX10_owes_4 : decode cX10_owes 4 = .ok (.ifCond .ne 5, 3) := by decide +kernel
theorem dX10_owes_7 : decode cX10_owes 7 = .ok (.iconst (-1), 1) := by decide +kernel
theorem dX10_owes_8 : decode cX10_owes 8 = .ok (.ireturn, 1) := by decide +kernel
theorem dX10_owes_9 : decode cX10_owes 9 = .ok (.iconst 0, 1) := by decide +kernel
theorem dX10_owes_10 : decode cX10_owes 10 = .ok (.istore_n 2, 1) := by decide +kernel
theorem dX10_owes_11 : decode cX10_owes 11 = .ok (.iconst 0, 1) := by decide +kernel
theorem dX10_owes_12 : decode cX10_owes 12 = .ok (.istore_n 3, 1) := by decide +kernel
theorem dX10_owes_13 : decode cX10_owes 13 = .ok (.iload_n 3, 1) := by decide +kernel
theorem dX10_owes_14 : decode cX10_owes 14 = .ok (.aload_n 0, 1) := by decide +kernel
theorem dX10_owes_15 : decode cX10_owes 15 = .ok (.getfield 7, 3) := by decide +kernel
theorem dX10_owes_18 : decode cX10_owes 18 = .ok (.iconst 1, 1) := by decide +kernel
theorem dX10_owes_19 : decode cX10_owes 19 = .ok (.iaload, 1) := by decide +kernel
theorem dX10_owes_20 : decode cX10_owes 20 = .ok (.if_icmp .ge 115, 3) := by decide +kernel
theorem dX10_owes_135 : decode cX10_owes 135 = .ok (.iload_n 2, 1) := by decide +kernel
theorem dX10_owes_136 : decode cX10_owes 136 = .ok (.ireturn, 1) := by decide +kernel
theorem dX10_party_0 : decode cX10_party 0 = .ok (.aload_n 0, 1) := by decide +kernel
theorem dX10_party_1 : decode cX10_party 1 = .ok (.iload_n 1, 1) := by decide +kernel
theorem dX10_party_2 : decode cX10_party 2 = .ok (.invokevirtual 116, 3) := by decide +kernel
theorem dX10_party_5 : decode cX10_party 5 = .ok (.ifCond .eq 16, 3) := by decide +kernel
theorem dX10_party_21 : decode cX10_party 21 = .ok (.bipush (-2), 2) := by decide +kernel
theorem dX10_party_23 : decode cX10_party 23 = .ok (.ireturn, 1) := by decide +kernel
theorem dX10_partyAt_0 : decode cX10_partyAt 0 = .ok (.iload_n 0, 1) := by decide +kernel
theorem dX10_partyAt_1 : decode cX10_partyAt 1 = .ok (.sipush 184, 3) := by decide +kernel
theorem dX10_partyAt_4 : decode cX10_partyAt 4 = .ok (.iadd, 1) := by decide +kernel
theorem dX10_partyAt_5 : decode cX10_partyAt 5 = .ok (.bipush 6, 2) := by decide +kernel
theorem dX10_partyAt_7 : decode cX10_partyAt 7 = .ok (.iload_n 1, 1) := by decide +kernel
theorem dX10_partyAt_8 : decode cX10_partyAt 8 = .ok (.imul, 1) := by decide +kernel
theorem dX10_partyAt_9 : decode cX10_partyAt 9 = .ok (.iadd, 1) := by decide +kernel
theorem dX10_partyAt_10 : decode cX10_partyAt 10 = .ok (.ireturn, 1) := by decide +kernel
theorem dX10_pass_0 : decode cX10_pass 0 = .ok (.aload_n 0, 1) := by decide +kernel
theorem dX10_pass_1 : decode cX10_pass 1 = .ok (.aload_n 0, 1) := by decide +kernel
theorem dX10_pass_2 : decode cX10_pass 2 = .ok (.iload_n 1, 1) := by decide +kernel
theorem dX10_pass_3 : decode cX10_pass 3 = .ok (.iload_n 2, 1) := by decide +kernel
theorem dX10_pass_4 : decode cX10_pass 4 = .ok (.bipush 9, 2) := by decide +kernel
theorem dX10_pass_6 : decode cX10_pass 6 = .ok (.if_icmp .le 10, 3) := by decide +kernel
theorem dX10_pass_9 : decode cX10_pass 9 = .ok (.iload_n 2, 1) := by decide +kernel
theorem dX10_pass_10 : decode cX10_pass 10 = .ok (.bipush 10, 2) := by decide +kernel
theorem dX10_pass_12 : decode cX10_pass 12 = .ok (.isub, 1) := by decide +kernel
theorem dX10_pass_13 : decode cX10_pass 13 = .ok (.goto 4, 3) := by decide +kernel
theorem dX10_pass_16 : decode cX10_pass 16 = .ok (.iload_n 2, 1) := by decide +kernel
theorem dX10_pass_17 : decode cX10_pass 17 = .ok (.iload_n 2, 1) := by decide +kernel
theorem dX10_pass_18 : decode cX10_pass 18 = .ok (.bipush 9, 2) := by decide +kernel
theorem dX10_pass_20 : decode cX10_pass 20 = .ok (.if_icmp .le 7, 3) := by decide +kernel
theorem dX10_pass_23 : decode cX10_pass 23 = .ok (.iconst 1, 1) := by decide +kernel
theorem dX10_pass_24 : decode cX10_pass 24 = .ok (.goto 4, 3) := by decide +kernel
theorem dX10_pass_27 : decode cX10_pass 27 = .ok (.iconst 0, 1) := by decide +kernel
theorem dX10_pass_28 : decode cX10_pass 28 = .ok (.iload_n 3, 1) := by decide +kernel
theorem dX10_pass_29 : decode cX10_pass 29 = .ok (.iload 4, 2) := by decide +kernel
theorem dX10_pass_31 : decode cX10_pass 31 = .ok (.iload 5, 2) := by decide +kernel
theorem dX10_pass_33 : decode cX10_pass 33 = .ok (.invokevirtual 129, 3) := by decide +kernel
theorem dX10_pass_36 : decode cX10_pass 36 = .ok (.invokevirtual 97, 3) := by decide +kernel
theorem dX10_pass_39 : decode cX10_pass 39 = .ok (.ireturn, 1) := by decide +kernel
theorem dX10_passes_0 : decode cX10_passes 0 = .ok (.iload_n 2, 1) := by decide +kernel
theorem dX10_passes_1 : decode cX10_passes 1 = .ok (.iconst 0, 1) := by decide +kernel
theorem dX10_passes_2 : decode cX10_passes 2 = .ok (.iconst 3, 1) := by decide +kernel
theorem dX10_passes_3 : decode cX10_passes 3 = .ok (.invokestatic 33, 3) := by decide +kernel
theorem dX10_passes_6 : decode cX10_passes 6 = .ok (.ifCond .eq 12, 3) := by decide +kernel
theorem dX10_passes_9 : decode cX10_passes 9 = .ok (.iload_n 3, 1) := by decide +kernel
theorem dX10_passes_10 : decode cX10_passes 10 = .ok (.ifCond .eq 11, 3) := by decide +kernel
theorem dX10_passes_13 : decode cX10_passes 13 = .ok (.iload_n 2, 1) := by decide +kernel
theorem dX10_passes_14 : decode cX10_passes 14 = .ok (.iconst 3, 1) := by decide +kernel
theorem dX10_passes_15 : decode cX10_passes 15 = .ok (.if_icmp .ne 6, 3) := by decide +kernel
theorem dX10_passes_18 : decode cX10_passes 18 = .ok (.bipush 30, 2) := by decide +kernel
theorem dX10_passes_20 : decode cX10_passes 20 = .ok (.ireturn, 1) := by decide +kernel
theorem dX10_passes_21 : decode cX10_passes 21 = .ok (.aload_n 0, 1) := by decide +kernel
theorem dX10_passes_22 : decode cX10_passes 22 = .ok (.iload_n 1, 1) := by decide +kernel
theorem dX10_passes_23 : decode cX10_passes 23 = .ok (.iload 4, 2) := by decide +kernel
theorem dX10_passes_25 : decode cX10_passes 25 = .ok (.iload 5, 2) := by decide +kernel
theorem dX10_passes_27 : decode cX10_passes 27 = .ok (.invokevirtual 122, 3) := by decide +kernel
theorem dX10_passes_30 : decode cX10_passes 30 = .ok (.istore 7, 2) := by decide +kernel
theorem dX10_passes_32 : decode cX10_passes 32 = .ok (.iload 7, 2) := by decide +kernel
theorem dX10_passes_34 : decode cX10_passes 34 = .ok (.ifCond .le 6, 3) := by decide +kernel
theorem dX10_passes_37 : decode cX10_passes 37 = .ok (.iload 7, 2) := by decide +kernel
theorem dX10_passes_39 : decode cX10_passes 39 = .ok (.ireturn, 1) := by decide +kernel
theorem dX10_pay_0 : decode cX10_pay 0 = .ok (.aload_n 0, 1) := by decide +kernel
theorem dX10_pay_1 : decode cX10_pay 1 = .ok (.aload_n 0, 1) := by decide +kernel
theorem dX10_pay_2 : decode cX10_pay 2 = .ok (.iload_n 1, 1) := by decide +kernel
theorem dX10_pay_3 : decode cX10_pay 3 = .ok (.iload_n 2, 1) := by decide +kernel
theorem dX10_pay_4 : decode cX10_pay 4 = .ok (.invokevirtual 162, 3) := by decide +kernel
theorem dX10_pay_7 : decode cX10_pay 7 = .ok (.invokevirtual 97, 3) := by decide +kernel
theorem dX10_pay_10 : decode cX10_pay 10 = .ok (.ireturn, 1) := by decide +kernel
theorem dX10_paysNow_0 : decode cX10_paysNow 0 = .ok (.aload_n 0, 1) := by decide +kernel
theorem dX10_paysNow_1 : decode cX10_paysNow 1 = .ok (.iload_n 1, 1) := by decide +kernel
theorem dX10_paysNow_2 : decode cX10_paysNow 2 = .ok (.invokevirtual 116, 3) := by decide +kernel
theorem dX10_paysNow_5 : decode cX10_paysNow 5 = .ok (.ifCond .eq 30, 3) := by decide +kernel
theorem dX10_paysNow_35 : decode cX10_paysNow 35 = .ok (.bipush 30, 2) := by decide +kernel
theorem dX10_paysNow_37 : decode cX10_paysNow 37 = .ok (.ireturn, 1) := by decide +kernel
theorem dX10_present_0 : decode cX10_present 0 = .ok (.aload_n 0, 1) := by decide +kernel
theorem dX10_present_1 : decode cX10_present 1 = .ok (.iload_n 1, 1) := by decide +kernel
theorem dX10_present_2 : decode cX10_present 2 = .ok (.invokevirtual 153, 3) := by decide +kernel
theorem dX10_present_5 : decode cX10_present 5 = .ok (.istore_n 2, 1) := by decide +kernel
theorem dX10_present_6 : decode cX10_present 6 = .ok (.aload_n 0, 1) := by decide +kernel
theorem dX10_present_7 : decode cX10_present 7 = .ok (.iload_n 2, 1) := by decide +kernel
theorem dX10_present_8 : decode cX10_present 8 = .ok (.iconst 1, 1) := by decide +kernel
theorem dX10_present_9 : decode cX10_present 9 = .ok (.if_icmp .le 7, 3) := by decide +kernel
theorem dX10_present_12 : decode cX10_present 12 = .ok (.iload_n 2, 1) := by decide +kernel
theorem dX10_present_13 : decode cX10_present 13 = .ok (.goto 4, 3) := by decide +kernel
theorem dX10_present_17 : decode cX10_present 17 = .ok (.invokevirtual 97, 3) := by decide +kernel
theorem dX10_present_20 : decode cX10_present 20 = .ok (.istore_n 3, 1) := by decide +kernel
theorem dX10_present_21 : decode cX10_present 21 = .ok (.iload_n 2, 1) := by decide +kernel
theorem dX10_present_22 : decode cX10_present 22 = .ok (.ireturn, 1) := by decide +kernel
theorem dX10_presents_0 : decode cX10_presents 0 = .ok (.aload_n 0, 1) := by decide +kernel
theorem dX10_presents_1 : decode cX10_presents 1 = .ok (.iload_n 1, 1) := by decide +kernel
theorem dX10_presents_2 : decode cX10_presents 2 = .ok (.invokevirtual 116, 3) := by decide +kernel
theorem dX10_presents_5 : decode cX10_presents 5 = .ok (.ifCond .ne 6, 3) := by decide +kernel
theorem dX10_presents_8 : decode cX10_presents 8 = .ok (.bipush 30, 2) := by decide +kernel
theorem dX10_presents_10 : decode cX10_presents 10 = .ok (.ireturn, 1) := by decide +kernel
theorem dX10_reach_0 : decode cX10_reach 0 = .ok (.aload_n 0, 1) := by decide +kernel
theorem dX10_reach_1 : decode cX10_reach 1 = .ok (.iload_n 1, 1) := by decide +kernel
theorem dX10_reach_2 : decode cX10_reach 2 = .ok (.invokevirtual 116, 3) := by decide +kernel
theorem dX10_reach_5 : decode cX10_reach 5 = .ok (.ifCond .eq 16, 3) := by decide +kernel
theorem dX10_reach_21 : decode cX10_reach 21 = .ok (.bipush (-2), 2) := by decide +kernel
theorem dX10_reach_23 : decode cX10_reach 23 = .ok (.ireturn, 1) := by decide +kernel
theorem dX10_refused_0 : decode cX10_refused 0 = .ok (.aload_n 0, 1) := by decide +kernel
theorem dX10_refused_1 : decode cX10_refused 1 = .ok (.getfield 7, 3) := by decide +kernel
theorem dX10_refused_4 : decode cX10_refused 4 = .ok (.iconst 5, 1) := by decide +kernel
theorem dX10_refused_5 : decode cX10_refused 5 = .ok (.iaload, 1) := by decide +kernel
theorem dX10_refused_6 : decode cX10_refused 6 = .ok (.ireturn, 1) := by decide +kernel
theorem dX10_release_0 : decode cX10_release 0 = .ok (.aload_n 0, 1) := by decide +kernel
theorem dX10_release_1 : decode cX10_release 1 = .ok (.aload_n 0, 1) := by decide +kernel
theorem dX10_release_2 : decode cX10_release 2 = .ok (.iload_n 1, 1) := by decide +kernel
theorem dX10_release_3 : decode cX10_release 3 = .ok (.iload_n 2, 1) := by decide +kernel
theorem dX10_release_4 : decode cX10_release 4 = .ok (.invokevirtual 159, 3) := by decide +kernel
theorem dX10_release_7 : decode cX10_release 7 = .ok (.invokevirtual 97, 3) := by decide +kernel
theorem dX10_release_10 : decode cX10_release 10 = .ok (.ireturn, 1) := by decide +kernel
theorem dX10_releases_0 : decode cX10_releases 0 = .ok (.aload_n 0, 1) := by decide +kernel
theorem dX10_releases_1 : decode cX10_releases 1 = .ok (.iload_n 1, 1) := by decide +kernel
theorem dX10_releases_2 : decode cX10_releases 2 = .ok (.iload_n 2, 1) := by decide +kernel
theorem dX10_releases_3 : decode cX10_releases 3 = .ok (.invokevirtual 143, 3) := by decide +kernel
theorem dX10_releases_6 : decode cX10_releases 6 = .ok (.ifCond .ne 6, 3) := by decide +kernel
theorem dX10_releases_9 : decode cX10_releases 9 = .ok (.bipush 30, 2) := by decide +kernel
theorem dX10_releases_11 : decode cX10_releases 11 = .ok (.ireturn, 1) := by decide +kernel
theorem dX10_run_0 : decode cX10_run 0 = .ok (.aload_n 0, 1) := by decide +kernel
theorem dX10_run_1 : decode cX10_run 1 = .ok (.iload_n 1, 1) := by decide +kernel
theorem dX10_run_2 : decode cX10_run 2 = .ok (.invokevirtual 116, 3) := by decide +kernel
theorem dX10_run_5 : decode cX10_run 5 = .ok (.ifCond .ne 6, 3) := by decide +kernel
theorem dX10_run_8 : decode cX10_run 8 = .ok (.bipush (-2), 2) := by decide +kernel
theorem dX10_run_10 : decode cX10_run 10 = .ok (.ireturn, 1) := by decide +kernel
theorem dX10_sorts_0 : decode cX10_sorts 0 = .ok (.aload_n 0, 1) := by decide +kernel
theorem dX10_sorts_1 : decode cX10_sorts 1 = .ok (.iload_n 1, 1) := by decide +kernel
theorem dX10_sorts_2 : decode cX10_sorts 2 = .ok (.invokevirtual 116, 3) := by decide +kernel
theorem dX10_sorts_5 : decode cX10_sorts 5 = .ok (.ifCond .ne 6, 3) := by decide +kernel
theorem dX10_sorts_8 : decode cX10_sorts 8 = .ok (.bipush (-2), 2) := by decide +kernel
theorem dX10_sorts_10 : decode cX10_sorts 10 = .ok (.ireturn, 1) := by decide +kernel
theorem dX10_step_0 : decode cX10_step 0 = .ok (.aload_n 0, 1) := by decide +kernel
theorem dX10_step_1 : decode cX10_step 1 = .ok (.iload_n 1, 1) := by decide +kernel
theorem dX10_step_2 : decode cX10_step 2 = .ok (.iload_n 2, 1) := by decide +kernel
theorem dX10_step_3 : decode cX10_step 3 = .ok (.invokevirtual 186, 3) := by decide +kernel
theorem dX10_step_6 : decode cX10_step 6 = .ok (.ifCond .eq 32, 3) := by decide +kernel
theorem dX10_step_38 : decode cX10_step 38 = .ok (.bipush (-2), 2) := by decide +kernel
theorem dX10_step_40 : decode cX10_step 40 = .ok (.ireturn, 1) := by decide +kernel
theorem dX10_stepReason_0 : decode cX10_stepReason 0 = .ok (.aload_n 0, 1) := by decide +kernel
theorem dX10_stepReason_1 : decode cX10_stepReason 1 = .ok (.iload_n 1, 1) := by decide +kernel
theorem dX10_stepReason_2 : decode cX10_stepReason 2 = .ok (.invokevirtual 116, 3) := by decide +kernel
theorem dX10_stepReason_5 : decode cX10_stepReason 5 = .ok (.ifCond .eq 21, 3) := by decide +kernel
theorem dX10_stepReason_26 : decode cX10_stepReason 26 = .ok (.bipush 30, 2) := by decide +kernel
theorem dX10_stepReason_28 : decode cX10_stepReason 28 = .ok (.ireturn, 1) := by decide +kernel
theorem dX10_tell_0 : decode cX10_tell 0 = .ok (.aload_n 0, 1) := by decide +kernel
theorem dX10_tell_1 : decode cX10_tell 1 = .ok (.aload_n 0, 1) := by decide +kernel
theorem dX10_tell_2 : decode cX10_tell 2 = .ok (.iload_n 1, 1) := by decide +kernel
theorem dX10_tell_3 : decode cX10_tell 3 = .ok (.iload_n 2, 1) := by decide +kernel
theorem dX10_tell_4 : decode cX10_tell 4 = .ok (.iload_n 3, 1) := by decide +kernel
theorem dX10_tell_5 : decode cX10_tell 5 = .ok (.invokevirtual 156, 3) := by decide +kernel
theorem dX10_tell_8 : decode cX10_tell 8 = .ok (.invokevirtual 97, 3) := by decide +kernel
theorem dX10_tell_11 : decode cX10_tell 11 = .ok (.ireturn, 1) := by decide +kernel
theorem dX10_told_0 : decode cX10_told 0 = .ok (.aload_n 0, 1) := by decide +kernel
theorem dX10_told_1 : decode cX10_told 1 = .ok (.getfield 7, 3) := by decide +kernel
theorem dX10_told_4 : decode cX10_told 4 = .ok (.iconst 5, 1) := by decide +kernel
theorem dX10_told_5 : decode cX10_told 5 = .ok (.iload_n 1, 1) := by decide +kernel
theorem dX10_told_6 : decode cX10_told 6 = .ok (.iastore, 1) := by decide +kernel
