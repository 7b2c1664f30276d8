theorem dX9_accept_0 : decode cX9_accept 0 = .ok (.aload_n 0, 1) := by decide +kernel
theorem dX9_accept_1 : decode cX9_accept 1 = .ok (.getfield 12, 3) := by decide +kernel
theorem dX9_accept_4 : decode cX9_accept 4 = .ok (.aload_n 0, 1) := by decide +kernel
theorem dX9_accept_5 : decode cX9_accept 5 = .ok (.getfield 12, 3) := by decide +kernel
theorem dX9_accept_8 : decode cX9_accept 8 = .ok (.iload_n 1, 1) := by decide +kernel
theorem dX9_accept_9 : decode cX9_accept 9 = .ok (.invokevirtual 100, 3) := by decide +kernel
theorem dX9_accept_12 : decode cX9_accept 12 = .ok (.invokevirtual 76, 3) := by decide +kernel
theorem dX9_accept_15 : decode cX9_accept 15 = .ok (.ireturn, 1) := by decide +kernel
theorem dX9_cash_0 : decode cX9_cash 0 = .ok (.aload_n 0, 1) := by decide +kernel
theorem dX9_cash_1 : decode cX9_cash 1 = .ok (.getfield 12, 3) := by decide +kernel
theorem dX9_cash_4 : decode cX9_cash 4 = .ok (.aload_n 0, 1) := by decide +kernel
theorem dX9_cash_5 : decode cX9_cash 5 = .ok (.getfield 12, 3) := by decide +kernel
theorem dX9_cash_8 : decode cX9_cash 8 = .ok (.iload_n 1, 1) := by decide +kernel
theorem dX9_cash_9 : decode cX9_cash 9 = .ok (.iload_n 2, 1) := by decide +kernel
theorem dX9_cash_10 : decode cX9_cash 10 = .ok (.invokevirtual 86, 3) := by decide +kernel
theorem dX9_cash_13 : decode cX9_cash 13 = .ok (.invokevirtual 76, 3) := by decide +kernel
theorem dX9_cash_16 : decode cX9_cash 16 = .ok (.ireturn, 1) := by decide +kernel
theorem dX9_count_0 : decode cX9_count 0 = .ok (.iload_n 1, 1) := by decide +kernel
theorem dX9_count_1 : decode cX9_count 1 = .ok (.tableswitch 123 0 8 #[51, 59, 67, 75, 83, 91, 99, 107, 115], 51) := by decide +kernel
theorem dX9_count_52 : decode cX9_count 52 = .ok (.aload_n 0, 1) := by decide +kernel
theorem dX9_count_53 : decode cX9_count 53 = .ok (.getfield 12, 3) := by decide +kernel
theorem dX9_count_56 : decode cX9_count 56 = .ok (.getfield 134, 3) := by decide +kernel
theorem dX9_count_59 : decode cX9_count 59 = .ok (.ireturn, 1) := by decide +kernel
theorem dX9_count_60 : decode cX9_count 60 = .ok (.aload_n 0, 1) := by decide +kernel
theorem dX9_count_61 : decode cX9_count 61 = .ok (.getfield 12, 3) := by decide +kernel
theorem dX9_count_64 : decode cX9_count 64 = .ok (.getfield 97, 3) := by decide +kernel
theorem dX9_count_67 : decode cX9_count 67 = .ok (.ireturn, 1) := by decide +kernel
theorem dX9_count_68 : decode cX9_count 68 = .ok (.aload_n 0, 1) := by decide +kernel
theorem dX9_count_69 : decode cX9_count 69 = .ok (.getfield 12, 3) := by decide +kernel
theorem dX9_count_72 : decode cX9_count 72 = .ok (.getfield 137, 3) := by decide +kernel
theorem dX9_count_75 : decode cX9_count 75 = .ok (.ireturn, 1) := by decide +kernel
theorem dX9_count_76 : decode cX9_count 76 = .ok (.aload_n 0, 1) := by decide +kernel
theorem dX9_count_77 : decode cX9_count 77 = .ok (.getfield 12, 3) := by decide +kernel
theorem dX9_count_80 : decode cX9_count 80 = .ok (.invokevirtual 140, 3) := by decide +kernel
theorem dX9_count_83 : decode cX9_count 83 = .ok (.ireturn, 1) := by decide +kernel
theorem dX9_count_84 : decode cX9_count 84 = .ok (.aload_n 0, 1) := by decide +kernel
theorem dX9_count_85 : decode cX9_count 85 = .ok (.getfield 12, 3) := by decide +kernel
theorem dX9_count_88 : decode cX9_count 88 = .ok (.getfield 143, 3) := by decide +kernel
theorem dX9_count_91 : decode cX9_count 91 = .ok (.ireturn, 1) := by decide +kernel
theorem dX9_count_92 : decode cX9_count 92 = .ok (.aload_n 0, 1) := by decide +kernel
theorem dX9_count_93 : decode cX9_count 93 = .ok (.getfield 12, 3) := by decide +kernel
theorem dX9_count_96 : decode cX9_count 96 = .ok (.invokevirtual 146, 3) := by decide +kernel
theorem dX9_count_99 : decode cX9_count 99 = .ok (.ireturn, 1) := by decide +kernel
theorem dX9_count_100 : decode cX9_count 100 = .ok (.aload_n 0, 1) := by decide +kernel
theorem dX9_count_101 : decode cX9_count 101 = .ok (.getfield 12, 3) := by decide +kernel
theorem dX9_count_104 : decode cX9_count 104 = .ok (.invokevirtual 149, 3) := by decide +kernel
theorem dX9_count_107 : decode cX9_count 107 = .ok (.ireturn, 1) := by decide +kernel
theorem dX9_count_108 : decode cX9_count 108 = .ok (.aload_n 0, 1) := by decide +kernel
theorem dX9_count_109 : decode cX9_count 109 = .ok (.getfield 12, 3) := by decide +kernel
theorem dX9_count_112 : decode cX9_count 112 = .ok (.getfield 152, 3) := by decide +kernel
theorem dX9_count_115 : decode cX9_count 115 = .ok (.ireturn, 1) := by decide +kernel
theorem dX9_count_116 : decode cX9_count 116 = .ok (.aload_n 0, 1) := by decide +kernel
theorem dX9_count_117 : decode cX9_count 117 = .ok (.getfield 12, 3) := by decide +kernel
theorem dX9_count_120 : decode cX9_count 120 = .ok (.getfield 45, 3) := by decide +kernel
theorem dX9_count_123 : decode cX9_count 123 = .ok (.ireturn, 1) := by decide +kernel
theorem dX9_count_124 : decode cX9_count 124 = .ok (.iload_n 1, 1) := by decide +kernel
theorem dX9_count_125 : decode cX9_count 125 = .ok (.bipush 10, 2) := by decide +kernel
theorem dX9_count_127 : decode cX9_count 127 = .ok (.isub, 1) := by decide +kernel
theorem dX9_count_128 : decode cX9_count 128 = .ok (.invokestatic 155, 3) := by decide +kernel
theorem dX9_count_131 : decode cX9_count 131 = .ok (.ifCond .eq 18, 3) := by decide +kernel
theorem dX9_count_134 : decode cX9_count 134 = .ok (.aload_n 0, 1) := by decide +kernel
theorem dX9_count_135 : decode cX9_count 135 = .ok (.getfield 12, 3) := by decide +kernel
theorem dX9_count_138 : decode cX9_count 138 = .ok (.getfield 159, 3) := by decide +kernel
theorem dX9_count_141 : decode cX9_count 141 = .ok (.iload_n 1, 1) := by decide +kernel
theorem dX9_count_142 : decode cX9_count 142 = .ok (.bipush 10, 2) := by decide +kernel
theorem dX9_count_144 : decode cX9_count 144 = .ok (.isub, 1) := by decide +kernel
theorem dX9_count_145 : decode cX9_count 145 = .ok (.iaload, 1) := by decide +kernel
theorem dX9_count_146 : decode cX9_count 146 = .ok (.goto 4, 3) := by decide +kernel
theorem dX9_count_149 : decode cX9_count 149 = .ok (.iconst (-1), 1) := by decide +kernel
theorem dX9_count_150 : decode cX9_count 150 = .ok (.ireturn, 1) := by decide +kernel
theorem dX9_day_0 : decode cX9_day 0 = .ok (.aload_n 0, 1) := by decide +kernel
theorem dX9_day_1 : decode cX9_day 1 = .ok (.getfield 12, 3) := by decide +kernel
theorem dX9_day_4 : decode cX9_day 4 = .ok (.aload_n 0, 1) := by decide +kernel
theorem dX9_day_5 : decode cX9_day 5 = .ok (.getfield 12, 3) := by decide +kernel
theorem dX9_day_8 : decode cX9_day 8 = .ok (.iload_n 1, 1) := by decide +kernel
theorem dX9_day_9 : decode cX9_day 9 = .ok (.invokevirtual 83, 3) := by decide +kernel
theorem dX9_day_12 : decode cX9_day 12 = .ok (.invokevirtual 76, 3) := by decide +kernel
theorem dX9_day_15 : decode cX9_day 15 = .ok (.ireturn, 1) := by decide +kernel
theorem dX9_defend_0 : decode cX9_defend 0 = .ok (.aload_n 0, 1) := by decide +kernel
theorem dX9_defend_1 : decode cX9_defend 1 = .ok (.getfield 12, 3) := by decide +kernel
theorem dX9_defend_4 : decode cX9_defend 4 = .ok (.aload_n 0, 1) := by decide +kernel
theorem dX9_defend_5 : decode cX9_defend 5 = .ok (.getfield 12, 3) := by decide +kernel
theorem dX9_defend_8 : decode cX9_defend 8 = .ok (.iload_n 1, 1) := by decide +kernel
theorem dX9_defend_9 : decode cX9_defend 9 = .ok (.iload_n 2, 1) := by decide +kernel
theorem dX9_defend_10 : decode cX9_defend 10 = .ok (.iload_n 3, 1) := by decide +kernel
theorem dX9_defend_11 : decode cX9_defend 11 = .ok (.invokevirtual 114, 3) := by decide +kernel
theorem dX9_defend_14 : decode cX9_defend 14 = .ok (.invokevirtual 76, 3) := by decide +kernel
theorem dX9_defend_17 : decode cX9_defend 17 = .ok (.ireturn, 1) := by decide +kernel
theorem dX9_draw_0 : decode cX9_draw 0 = .ok (.iload_n 3, 1) := by decide +kernel
theorem dX9_draw_1 : decode cX9_draw 1 = .ok (.bipush 10, 2) := by decide +kernel
theorem dX9_draw_3 : decode cX9_draw 3 = .ok (.if_icmp .lt 7, 3) := by decide +kernel
theorem dX9_draw_6 : decode cX9_draw 6 = .ok (.iconst 1, 1) := by decide +kernel
theorem dX9_draw_7 : decode cX9_draw 7 = .ok (.goto 4, 3) := by decide +kernel
theorem dX9_draw_10 : decode cX9_draw 10 = .ok (.iconst 0, 1) := by decide +kernel
theorem dX9_draw_11 : decode cX9_draw 11 = .ok (.istore 6, 2) := by decide +kernel
theorem dX9_draw_13 : decode cX9_draw 13 = .ok (.aload_n 0, 1) := by decide +kernel
theorem dX9_draw_14 : decode cX9_draw 14 = .ok (.getfield 12, 3) := by decide +kernel
theorem dX9_draw_17 : decode cX9_draw 17 = .ok (.aload_n 0, 1) := by decide +kernel
theorem dX9_draw_18 : decode cX9_draw 18 = .ok (.getfield 12, 3) := by decide +kernel
theorem dX9_draw_21 : decode cX9_draw 21 = .ok (.iload_n 1, 1) := by decide +kernel
theorem dX9_draw_22 : decode cX9_draw 22 = .ok (.iload_n 2, 1) := by decide +kernel
theorem dX9_draw_23 : decode cX9_draw 23 = .ok (.iload 6, 2) := by decide +kernel
theorem dX9_draw_25 : decode cX9_draw 25 = .ok (.ifCond .eq 10, 3) := by decide +kernel
theorem dX9_draw_28 : decode cX9_draw 28 = .ok (.iload_n 3, 1) := by decide +kernel
theorem dX9_draw_29 : decode cX9_draw 29 = .ok (.bipush 10, 2) := by decide +kernel
theorem dX9_draw_31 : decode cX9_draw 31 = .ok (.isub, 1) := by decide +kernel
theorem dX9_draw_32 : decode cX9_draw 32 = .ok (.goto 4, 3) := by decide +kernel
theorem dX9_draw_35 : decode cX9_draw 35 = .ok (.iload_n 3, 1) := by decide +kernel
theorem dX9_draw_36 : decode cX9_draw 36 = .ok (.iload 4, 2) := by decide +kernel
theorem dX9_draw_38 : decode cX9_draw 38 = .ok (.iload 5, 2) := by decide +kernel
theorem dX9_draw_40 : decode cX9_draw 40 = .ok (.iload 6, 2) := by decide +kernel
theorem dX9_draw_42 : decode cX9_draw 42 = .ok (.invokevirtual 93, 3) := by decide +kernel
theorem dX9_draw_45 : decode cX9_draw 45 = .ok (.invokevirtual 76, 3) := by decide +kernel
theorem dX9_draw_48 : decode cX9_draw 48 = .ok (.istore 7, 2) := by decide +kernel
theorem dX9_draw_50 : decode cX9_draw 50 = .ok (.iload 7, 2) := by decide +kernel
theorem dX9_draw_52 : decode cX9_draw 52 = .ok (.ifCond .ne 15, 3) := by decide +kernel
theorem dX9_draw_55 : decode cX9_draw 55 = .ok (.aload_n 0, 1) := by decide +kernel
theorem dX9_draw_56 : decode cX9_draw 56 = .ok (.getfield 12, 3) := by decide +kernel
theorem dX9_draw_59 : decode cX9_draw 59 = .ok (.getfield 97, 3) := by decide +kernel
theorem dX9_draw_62 : decode cX9_draw 62 = .ok (.iconst 1, 1) := by decide +kernel
theorem dX9_draw_63 : decode cX9_draw 63 = .ok (.isub, 1) := by decide +kernel
theorem dX9_draw_64 : decode cX9_draw 64 = .ok (.goto 6, 3) := by decide +kernel
theorem dX9_draw_67 : decode cX9_draw 67 = .ok (.iload 7, 2) := by decide +kernel
theorem dX9_draw_69 : decode cX9_draw 69 = .ok (.ineg, 1) := by decide +kernel
theorem dX9_draw_70 : decode cX9_draw 70 = .ok (.ireturn, 1) := by decide +kernel
theorem dX9_end_0 : decode cX9_end 0 = .ok (.iload_n 1, 1) := by decide +kernel
theorem dX9_end_1 : decode cX9_end 1 = .ok (.ifCond .lt 14, 3) := by decide +kernel
theorem dX9_end_4 : decode cX9_end 4 = .ok (.iload_n 1, 1) := by decide +kernel
theorem dX9_end_5 : decode cX9_end 5 = .ok (.aload_n 0, 1) := by decide +kernel
theorem dX9_end_6 : decode cX9_end 6 = .ok (.getfield 12, 3) := by decide +kernel
theorem dX9_end_9 : decode cX9_end 9 = .ok (.getfield 45, 3) := by decide +kernel
theorem dX9_end_12 : decode cX9_end 12 = .ok (.if_icmp .le 5, 3) := by decide +kernel
theorem dX9_end_15 : decode cX9_end 15 = .ok (.iconst (-1), 1) := by decide +kernel
theorem dX9_end_16 : decode cX9_end 16 = .ok (.ireturn, 1) := by decide +kernel
theorem dX9_end_17 : decode cX9_end 17 = .ok (.aload_n 0, 1) := by decide +kernel
theorem dX9_end_18 : decode cX9_end 18 = .ok (.getfield 12, 3) := by decide +kernel
theorem dX9_end_21 : decode cX9_end 21 = .ok (.iload_n 1, 1) := by decide +kernel
theorem dX9_end_22 : decode cX9_end 22 = .ok (.putfield 45, 3) := by decide +kernel
theorem dX9_end_25 : decode cX9_end 25 = .ok (.iload_n 1, 1) := by decide +kernel
theorem dX9_end_26 : decode cX9_end 26 = .ok (.ireturn, 1) := by decide +kernel
theorem dX9_fault_0 : decode cX9_fault 0 = .ok (.aload_n 0, 1) := by decide +kernel
theorem dX9_fault_1 : decode cX9_fault 1 = .ok (.getfield 12, 3) := by decide +kernel
theorem dX9_fault_4 : decode cX9_fault 4 = .ok (.getfield 64, 3) := by decide +kernel
theorem dX9_fault_7 : decode cX9_fault 7 = .ok (.ireturn, 1) := by decide +kernel
theorem dX9_feed_0 : decode cX9_feed 0 = .ok (.aload_n 0, 1) := by decide +kernel
theorem dX9_feed_1 : decode cX9_feed 1 = .ok (.getfield 12, 3) := by decide +kernel
theorem dX9_feed_4 : decode cX9_feed 4 = .ok (.iload_n 1, 1) := by decide +kernel
theorem dX9_feed_5 : decode cX9_feed 5 = .ok (.iload_n 2, 1) := by decide +kernel
theorem dX9_feed_6 : decode cX9_feed 6 = .ok (.iload_n 3, 1) := by decide +kernel
theorem dX9_feed_7 : decode cX9_feed 7 = .ok (.iload 4, 2) := by decide +kernel
theorem dX9_feed_9 : decode cX9_feed 9 = .ok (.iload 5, 2) := by decide +kernel
theorem dX9_feed_11 : decode cX9_feed 11 = .ok (.invokevirtual 41, 3) := by decide +kernel
theorem dX9_feed_14 : decode cX9_feed 14 = .ok (.ireturn, 1) := by decide +kernel
theorem dX9_find_0 : decode cX9_find 0 = .ok (.aload_n 0, 1) := by decide +kernel
theorem dX9_find_1 : decode cX9_find 1 = .ok (.getfield 12, 3) := by decide +kernel
theorem dX9_find_4 : decode cX9_find 4 = .ok (.aload_n 0, 1) := by decide +kernel
theorem dX9_find_5 : decode cX9_find 5 = .ok (.getfield 12, 3) := by decide +kernel
theorem dX9_find_8 : decode cX9_find 8 = .ok (.iload_n 1, 1) := by decide +kernel
theorem dX9_find_9 : decode cX9_find 9 = .ok (.iload_n 2, 1) := by decide +kernel
theorem dX9_find_10 : decode cX9_find 10 = .ok (.invokevirtual 111, 3) := by decide +kernel
theorem dX9_find_13 : decode cX9_find 13 = .ok (.invokevirtual 76, 3) := by decide +kernel
theorem dX9_find_16 : decode cX9_find 16 = .ok (.ireturn, 1) := by decide +kernel
theorem dX9_forge_0 : decode cX9_forge 0 = .ok (.aload_n 0, 1) := by decide +kernel
theorem dX9_forge_1 : decode cX9_forge 1 = .ok (.getfield 12, 3) := by decide +kernel
theorem dX9_forge_4 : decode cX9_forge 4 = .ok (.aload_n 0, 1) := by decide +kernel
theorem dX9_forge_5 : decode cX9_forge 5 = .ok (.getfield 12, 3) := by decide +kernel
theorem dX9_forge_8 : decode cX9_forge 8 = .ok (.iload_n 1, 1) := by decide +kernel
theorem dX9_forge_9 : decode cX9_forge 9 = .ok (.iload_n 2, 1) := by decide +kernel
theorem dX9_forge_10 : decode cX9_forge 10 = .ok (.iload_n 3, 1) := by decide +kernel
theorem dX9_forge_11 : decode cX9_forge 11 = .ok (.iload 4, 2) := by decide +kernel
theorem dX9_forge_13 : decode cX9_forge 13 = .ok (.iload 5, 2) := by decide +kernel
theorem dX9_forge_15 : decode cX9_forge 15 = .ok (.invokevirtual 107, 3) := by decide +kernel
theorem dX9_forge_18 : decode cX9_forge 18 = .ok (.invokevirtual 76, 3) := by decide +kernel
theorem dX9_forge_21 : decode cX9_forge 21 = .ok (.ireturn, 1) := by decide +kernel
theorem dX9_grace_0 : decode cX9_grace 0 = .ok (.aload_n 0, 1) := by decide +kernel
theorem dX9_grace_1 : decode cX9_grace 1 = .ok (.getfield 12, 3) := by decide +kernel
theorem dX9_grace_4 : decode cX9_grace 4 = .ok (.aload_n 0, 1) := by decide +kernel
theorem dX9_grace_5 : decode cX9_grace 5 = .ok (.getfield 12, 3) := by decide +kernel
theorem dX9_grace_8 : decode cX9_grace 8 = .ok (.iload_n 1, 1) := by decide +kernel
theorem dX9_grace_9 : decode cX9_grace 9 = .ok (.invokevirtual 90, 3) := by decide +kernel
theorem dX9_grace_12 : decode cX9_grace 12 = .ok (.invokevirtual 76, 3) := by decide +kernel
theorem dX9_grace_15 : decode cX9_grace 15 = .ok (.ireturn, 1) := by decide +kernel
theorem dX9_pass_0 : decode cX9_pass 0 = .ok (.iload_n 2, 1) := by decide +kernel
theorem dX9_pass_1 : decode cX9_pass 1 = .ok (.bipush 10, 2) := by decide +kernel
theorem dX9_pass_3 : decode cX9_pass 3 = .ok (.if_icmp .lt 7, 3) := by decide +kernel
theorem dX9_pass_6 : decode cX9_pass 6 = .ok (.iconst 1, 1) := by decide +kernel
theorem dX9_pass_7 : decode cX9_pass 7 = .ok (.goto 4, 3) := by decide +kernel
theorem dX9_pass_10 : decode cX9_pass 10 = .ok (.iconst 0, 1) := by decide +kernel
theorem dX9_pass_11 : decode cX9_pass 11 = .ok (.istore 6, 2) := by decide +kernel
theorem dX9_pass_13 : decode cX9_pass 13 = .ok (.aload_n 0, 1) := by decide +kernel
theorem dX9_pass_14 : decode cX9_pass 14 = .ok (.getfield 12, 3) := by decide +kernel
theorem dX9_pass_17 : decode cX9_pass 17 = .ok (.aload_n 0, 1) := by decide +kernel
theorem dX9_pass_18 : decode cX9_pass 18 = .ok (.getfield 12, 3) := by decide +kernel
theorem dX9_pass_21 : decode cX9_pass 21 = .ok (.iload_n 1, 1) := by decide +kernel
theorem dX9_pass_22 : decode cX9_pass 22 = .ok (.iload 6, 2) := by decide +kernel
theorem dX9_pass_24 : decode cX9_pass 24 = .ok (.ifCond .eq 10, 3) := by decide +kernel
theorem dX9_pass_27 : decode cX9_pass 27 = .ok (.iload_n 2, 1) := by decide +kernel
theorem dX9_pass_28 : decode cX9_pass 28 = .ok (.bipush 10, 2) := by decide +kernel
theorem dX9_pass_30 : decode cX9_pass 30 = .ok (.isub, 1) := by decide +kernel
theorem dX9_pass_31 : decode cX9_pass 31 = .ok (.goto 4, 3) := by decide +kernel
theorem dX9_pass_34 : decode cX9_pass 34 = .ok (.iload_n 2, 1) := by decide +kernel
theorem dX9_pass_35 : decode cX9_pass 35 = .ok (.iload_n 3, 1) := by decide +kernel
theorem dX9_pass_36 : decode cX9_pass 36 = .ok (.iload 4, 2) := by decide +kernel
theorem dX9_pass_38 : decode cX9_pass 38 = .ok (.iload 5, 2) := by decide +kernel
theorem dX9_pass_40 : decode cX9_pass 40 = .ok (.iload 6, 2) := by decide +kernel
theorem dX9_pass_42 : decode cX9_pass 42 = .ok (.invokevirtual 103, 3) := by decide +kernel
theorem dX9_pass_45 : decode cX9_pass 45 = .ok (.invokevirtual 76, 3) := by decide +kernel
theorem dX9_pass_48 : decode cX9_pass 48 = .ok (.ireturn, 1) := by decide +kernel
theorem dX9_pay_0 : decode cX9_pay 0 = .ok (.aload_n 0, 1) := by decide +kernel
theorem dX9_pay_1 : decode cX9_pay 1 = .ok (.getfield 12, 3) := by decide +kernel
theorem dX9_pay_4 : decode cX9_pay 4 = .ok (.aload_n 0, 1) := by decide +kernel
theorem dX9_pay_5 : decode cX9_pay 5 = .ok (.getfield 12, 3) := by decide +kernel
theorem dX9_pay_8 : decode cX9_pay 8 = .ok (.iload_n 1, 1) := by decide +kernel
theorem dX9_pay_9 : decode cX9_pay 9 = .ok (.iload_n 2, 1) := by decide +kernel
theorem dX9_pay_10 : decode cX9_pay 10 = .ok (.invokevirtual 131, 3) := by decide +kernel
theorem dX9_pay_13 : decode cX9_pay 13 = .ok (.invokevirtual 76, 3) := by decide +kernel
theorem dX9_pay_16 : decode cX9_pay 16 = .ok (.ireturn, 1) := by decide +kernel
theorem dX9_present_0 : decode cX9_present 0 = .ok (.aload_n 0, 1) := by decide +kernel
theorem dX9_present_1 : decode cX9_present 1 = .ok (.getfield 12, 3) := by decide +kernel
theorem dX9_present_4 : decode cX9_present 4 = .ok (.iload_n 1, 1) := by decide +kernel
theorem dX9_present_5 : decode cX9_present 5 = .ok (.invokevirtual 118, 3) := by decide +kernel
theorem dX9_present_8 : decode cX9_present 8 = .ok (.istore_n 2, 1) := by decide +kernel
theorem dX9_present_9 : decode cX9_present 9 = .ok (.aload_n 0, 1) := by decide +kernel
theorem dX9_present_10 : decode cX9_present 10 = .ok (.getfield 12, 3) := by decide +kernel
theorem dX9_present_13 : decode cX9_present 13 = .ok (.iload_n 2, 1) := by decide +kernel
theorem dX9_present_14 : decode cX9_present 14 = .ok (.invokestatic 121, 3) := by decide +kernel
theorem dX9_present_17 : decode cX9_present 17 = .ok (.invokevirtual 76, 3) := by decide +kernel
theorem dX9_present_20 : decode cX9_present 20 = .ok (.pop, 1) := by decide +kernel
theorem dX9_present_21 : decode cX9_present 21 = .ok (.iload_n 2, 1) := by decide +kernel
theorem dX9_present_22 : decode cX9_present 22 = .ok (.ireturn, 1) := by decide +kernel
theorem dX9_refusalOf_0 : decode cX9_refusalOf 0 = .ok (.iload_n 0, 1) := by decide +kernel
theorem dX9_refusalOf_1 : decode cX9_refusalOf 1 = .ok (.iconst 1, 1) := by decide +kernel
theorem dX9_refusalOf_2 : decode cX9_refusalOf 2 = .ok (.if_icmp .ne 7, 3) := by decide +kernel
theorem dX9_refusalOf_5 : decode cX9_refusalOf 5 = .ok (.iconst 0, 1) := by decide +kernel
theorem dX9_refusalOf_6 : decode cX9_refusalOf 6 = .ok (.goto 4, 3) := by decide +kernel
theorem dX9_refusalOf_9 : decode cX9_refusalOf 9 = .ok (.iload_n 0, 1) := by decide +kernel
theorem dX9_refusalOf_10 : decode cX9_refusalOf 10 = .ok (.ireturn, 1) := by decide +kernel
theorem dX9_refused_0 : decode cX9_refused 0 = .ok (.aload_n 0, 1) := by decide +kernel
theorem dX9_refused_1 : decode cX9_refused 1 = .ok (.getfield 12, 3) := by decide +kernel
theorem dX9_refused_4 : decode cX9_refused 4 = .ok (.getfield 80, 3) := by decide +kernel
theorem dX9_refused_7 : decode cX9_refused 7 = .ok (.ireturn, 1) := by decide +kernel
theorem dX9_release_0 : decode cX9_release 0 = .ok (.aload_n 0, 1) := by decide +kernel
theorem dX9_release_1 : decode cX9_release 1 = .ok (.getfield 12, 3) := by decide +kernel
theorem dX9_release_4 : decode cX9_release 4 = .ok (.aload_n 0, 1) := by decide +kernel
theorem dX9_release_5 : decode cX9_release 5 = .ok (.getfield 12, 3) := by decide +kernel
theorem dX9_release_8 : decode cX9_release 8 = .ok (.iload_n 1, 1) := by decide +kernel
theorem dX9_release_9 : decode cX9_release 9 = .ok (.iload_n 2, 1) := by decide +kernel
theorem dX9_release_10 : decode cX9_release 10 = .ok (.invokevirtual 128, 3) := by decide +kernel
theorem dX9_release_13 : decode cX9_release 13 = .ok (.invokevirtual 76, 3) := by decide +kernel
theorem dX9_release_16 : decode cX9_release 16 = .ok (.ireturn, 1) := by decide +kernel
theorem dX9_tell_0 : decode cX9_tell 0 = .ok (.aload_n 0, 1) := by decide +kernel
theorem dX9_tell_1 : decode cX9_tell 1 = .ok (.getfield 12, 3) := by decide +kernel
theorem dX9_tell_4 : decode cX9_tell 4 = .ok (.aload_n 0, 1) := by decide +kernel
theorem dX9_tell_5 : decode cX9_tell 5 = .ok (.getfield 12, 3) := by decide +kernel
theorem dX9_tell_8 : decode cX9_tell 8 = .ok (.iload_n 1, 1) := by decide +kernel
theorem dX9_tell_9 : decode cX9_tell 9 = .ok (.iload_n 2, 1) := by decide +kernel
theorem dX9_tell_10 : decode cX9_tell 10 = .ok (.iload_n 3, 1) := by decide +kernel
theorem dX9_tell_11 : decode cX9_tell 11 = .ok (.invokevirtual 124, 3) := by decide +kernel
theorem dX9_tell_14 : decode cX9_tell 14 = .ok (.invokevirtual 76, 3) := by decide +kernel
theorem dX9_tell_17 : decode cX9_tell 17 = .ok (.ireturn, 1) := by decide +kernel
