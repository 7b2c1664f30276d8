theorem dX10_accept_0 : decode cX10_accept 0 = .ok (.aload_n 0, 1) := by decide +kernel
theorem dX10_accept_1 : decode cX10_accept 1 = .ok (.aload_n 0, 1) := by decide +kernel
theorem dX10_accept_2 : decode cX10_accept 2 = .ok (.iload_n 1, 1) := by decide +kernel
theorem dX10_accept_3 : decode cX10_accept 3 = .ok (.invokevirtual 119, 3) := by decide +kernel
theorem dX10_accept_6 : decode cX10_accept 6 = .ok (.invokevirtual 97, 3) := by decide +kernel
theorem dX10_accept_9 : decode cX10_accept 9 = .ok (.ireturn, 1) := by decide +kernel
theorem dX10_begins_0 : decode cX10_begins 0 = .ok (.iconst 0, 1) := by decide +kernel
theorem dX10_begins_1 : decode cX10_begins 1 = .ok (.istore_n 1, 1) := by decide +kernel
theorem dX10_begins_2 : decode cX10_begins 2 = .ok (.iload_n 1, 1) := by decide +kernel
theorem dX10_begins_3 : decode cX10_begins 3 = .ok (.sipush 1140, 3) := by decide +kernel
theorem dX10_begins_6 : decode cX10_begins 6 = .ok (.if_icmp .ge 16, 3) := by decide +kernel
theorem dX10_begins_9 : decode cX10_begins 9 = .ok (.aload_n 0, 1) := by decide +kernel
theorem dX10_begins_10 : decode cX10_begins 10 = .ok (.getfield 7, 3) := by decide +kernel
theorem dX10_begins_13 : decode cX10_begins 13 = .ok (.iload_n 1, 1) := by decide +kernel
theorem dX10_begins_14 : decode cX10_begins 14 = .ok (.iconst 0, 1) := by decide +kernel
theorem dX10_begins_15 : decode cX10_begins 15 = .ok (.iastore, 1) := by decide +kernel
theorem dX10_begins_16 : decode cX10_begins 16 = .ok (.iinc 1 1, 3) := by decide +kernel
theorem dX10_begins_19 : decode cX10_begins 19 = .ok (.goto (-17), 3) := by decide +kernel
theorem dX10_begins_22 : decode cX10_begins 22 = .ok (.aload_n 0, 1) := by decide +kernel
theorem dX10_begins_23 : decode cX10_begins 23 = .ok (.getfield 7, 3) := by decide +kernel
theorem dX10_begins_26 : decode cX10_begins 26 = .ok (.iconst 2, 1) := by decide +kernel
theorem dX10_begins_27 : decode cX10_begins 27 = .ok (.iconst 2, 1) := by decide +kernel
theorem dX10_begins_28 : decode cX10_begins 28 = .ok (.iastore, 1) := by decide +kernel
theorem dX10_begins_29 : decode cX10_begins 29 = .ok (.iconst 0, 1) := by decide +kernel
theorem dX10_begins_30 : decode cX10_begins 30 = .ok (.istore_n 1, 1) := by decide +kernel
theorem dX10_begins_31 : decode cX10_begins 31 = .ok (.iload_n 1, 1) := by decide +kernel
theorem dX10_begins_32 : decode cX10_begins 32 = .ok (.bipush 8, 2) := by decide +kernel
theorem dX10_begins_34 : decode cX10_begins 34 = .ok (.if_icmp .ge 20, 3) := by decide +kernel
theorem dX10_begins_37 : decode cX10_begins 37 = .ok (.aload_n 0, 1) := by decide +kernel
theorem dX10_begins_38 : decode cX10_begins 38 = .ok (.getfield 7, 3) := by decide +kernel
theorem dX10_begins_41 : decode cX10_begins 41 = .ok (.bipush 6, 2) := by decide +kernel
theorem dX10_begins_43 : decode cX10_begins 43 = .ok (.iload_n 1, 1) := by decide +kernel
theorem dX10_begins_44 : decode cX10_begins 44 = .ok (.iadd, 1) := by decide +kernel
theorem dX10_begins_45 : decode cX10_begins 45 = .ok (.bipush 100, 2) := by decide +kernel
theorem dX10_begins_47 : decode cX10_begins 47 = .ok (.iastore, 1) := by decide +kernel
theorem dX10_begins_48 : decode cX10_begins 48 = .ok (.iinc 1 1, 3) := by decide +kernel
theorem dX10_begins_51 : decode cX10_begins 51 = .ok (.goto (-20), 3) := by decide +kernel
theorem dX10_begins_54 : decode cX10_begins 54 = .ok (.return_, 1) := by decide +kernel
theorem dX10_cash_0 : decode cX10_cash 0 = .ok (.aload_n 0, 1) := by decide +kernel
theorem dX10_cash_1 : decode cX10_cash 1 = .ok (.aload_n 0, 1) := by decide +kernel
theorem dX10_cash_2 : decode cX10_cash 2 = .ok (.iload_n 1, 1) := by decide +kernel
theorem dX10_cash_3 : decode cX10_cash 3 = .ok (.iload_n 2, 1) := by decide +kernel
theorem dX10_cash_4 : decode cX10_cash 4 = .ok (.invokevirtual 103, 3) := by decide +kernel
theorem dX10_cash_7 : decode cX10_cash 7 = .ok (.invokevirtual 97, 3) := by decide +kernel
theorem dX10_cash_10 : decode cX10_cash 10 = .ok (.ireturn, 1) := by decide +kernel
theorem dX10_day_0 : decode cX10_day 0 = .ok (.aload_n 0, 1) := by decide +kernel
theorem dX10_day_1 : decode cX10_day 1 = .ok (.aload_n 0, 1) := by decide +kernel
theorem dX10_day_2 : decode cX10_day 2 = .ok (.iload_n 1, 1) := by decide +kernel
theorem dX10_day_3 : decode cX10_day 3 = .ok (.invokevirtual 94, 3) := by decide +kernel
theorem dX10_day_6 : decode cX10_day 6 = .ok (.invokevirtual 97, 3) := by decide +kernel
theorem dX10_day_9 : decode cX10_day 9 = .ok (.ireturn, 1) := by decide +kernel
theorem dX10_defend_0 : decode cX10_defend 0 = .ok (.aload_n 0, 1) := by decide +kernel
theorem dX10_defend_1 : decode cX10_defend 1 = .ok (.aload_n 0, 1) := by decide +kernel
theorem dX10_defend_2 : decode cX10_defend 2 = .ok (.iload_n 1, 1) := by decide +kernel
theorem dX10_defend_3 : decode cX10_defend 3 = .ok (.iload_n 2, 1) := by decide +kernel
theorem dX10_defend_4 : decode cX10_defend 4 = .ok (.iload_n 3, 1) := by decide +kernel
theorem dX10_defend_5 : decode cX10_defend 5 = .ok (.invokevirtual 146, 3) := by decide +kernel
theorem dX10_defend_8 : decode cX10_defend 8 = .ok (.invokevirtual 97, 3) := by decide +kernel
theorem dX10_defend_11 : decode cX10_defend 11 = .ok (.ireturn, 1) := by decide +kernel
theorem dX10_draw_0 : decode cX10_draw 0 = .ok (.iload_n 3, 1) := by decide +kernel
theorem dX10_draw_1 : decode cX10_draw 1 = .ok (.bipush 9, 2) := by decide +kernel
theorem dX10_draw_3 : decode cX10_draw 3 = .ok (.if_icmp .le 7, 3) := by decide +kernel
theorem dX10_draw_6 : decode cX10_draw 6 = .ok (.iconst 1, 1) := by decide +kernel
theorem dX10_draw_7 : decode cX10_draw 7 = .ok (.goto 4, 3) := by decide +kernel
theorem dX10_draw_10 : decode cX10_draw 10 = .ok (.iconst 0, 1) := by decide +kernel
theorem dX10_draw_11 : decode cX10_draw 11 = .ok (.istore 6, 2) := by decide +kernel
theorem dX10_draw_13 : decode cX10_draw 13 = .ok (.aload_n 0, 1) := by decide +kernel
theorem dX10_draw_14 : decode cX10_draw 14 = .ok (.aload_n 0, 1) := by decide +kernel
theorem dX10_draw_15 : decode cX10_draw 15 = .ok (.iload_n 1, 1) := by decide +kernel
theorem dX10_draw_16 : decode cX10_draw 16 = .ok (.iload_n 2, 1) := by decide +kernel
theorem dX10_draw_17 : decode cX10_draw 17 = .ok (.iload 6, 2) := by decide +kernel
theorem dX10_draw_19 : decode cX10_draw 19 = .ok (.ifCond .eq 10, 3) := by decide +kernel
theorem dX10_draw_22 : decode cX10_draw 22 = .ok (.iload_n 3, 1) := by decide +kernel
theorem dX10_draw_23 : decode cX10_draw 23 = .ok (.bipush 10, 2) := by decide +kernel
theorem dX10_draw_25 : decode cX10_draw 25 = .ok (.isub, 1) := by decide +kernel
theorem dX10_draw_26 : decode cX10_draw 26 = .ok (.goto 4, 3) := by decide +kernel
theorem dX10_draw_29 : decode cX10_draw 29 = .ok (.iload_n 3, 1) := by decide +kernel
theorem dX10_draw_30 : decode cX10_draw 30 = .ok (.iload 6, 2) := by decide +kernel
theorem dX10_draw_32 : decode cX10_draw 32 = .ok (.iload 4, 2) := by decide +kernel
theorem dX10_draw_34 : decode cX10_draw 34 = .ok (.iload 5, 2) := by decide +kernel
theorem dX10_draw_36 : decode cX10_draw 36 = .ok (.invokevirtual 112, 3) := by decide +kernel
theorem dX10_draw_39 : decode cX10_draw 39 = .ok (.invokevirtual 97, 3) := by decide +kernel
theorem dX10_draw_42 : decode cX10_draw 42 = .ok (.istore 7, 2) := by decide +kernel
theorem dX10_draw_44 : decode cX10_draw 44 = .ok (.iload 7, 2) := by decide +kernel
theorem dX10_draw_46 : decode cX10_draw 46 = .ok (.ifCond .le 9, 3) := by decide +kernel
theorem dX10_draw_49 : decode cX10_draw 49 = .ok (.iload 7, 2) := by decide +kernel
theorem dX10_draw_51 : decode cX10_draw 51 = .ok (.ineg, 1) := by decide +kernel
theorem dX10_draw_52 : decode cX10_draw 52 = .ok (.goto 11, 3) := by decide +kernel
theorem dX10_draw_55 : decode cX10_draw 55 = .ok (.aload_n 0, 1) := by decide +kernel
theorem dX10_draw_56 : decode cX10_draw 56 = .ok (.getfield 7, 3) := by decide +kernel
theorem dX10_draw_59 : decode cX10_draw 59 = .ok (.iconst 1, 1) := by decide +kernel
theorem dX10_draw_60 : decode cX10_draw 60 = .ok (.iaload, 1) := by decide +kernel
theorem dX10_draw_61 : decode cX10_draw 61 = .ok (.iconst 1, 1) := by decide +kernel
theorem dX10_draw_62 : decode cX10_draw 62 = .ok (.isub, 1) := by decide +kernel
theorem dX10_draw_63 : decode cX10_draw 63 = .ok (.ireturn, 1) := by decide +kernel
theorem dX10_find_0 : decode cX10_find 0 = .ok (.aload_n 0, 1) := by decide +kernel
theorem dX10_find_1 : decode cX10_find 1 = .ok (.aload_n 0, 1) := by decide +kernel
theorem dX10_find_2 : decode cX10_find 2 = .ok (.iload_n 1, 1) := by decide +kernel
theorem dX10_find_3 : decode cX10_find 3 = .ok (.iload_n 2, 1) := by decide +kernel
theorem dX10_find_4 : decode cX10_find 4 = .ok (.invokevirtual 137, 3) := by decide +kernel
theorem dX10_find_7 : decode cX10_find 7 = .ok (.invokevirtual 97, 3) := by decide +kernel
theorem dX10_find_10 : decode cX10_find 10 = .ok (.ireturn, 1) := by decide +kernel
theorem dX10_forge_0 : decode cX10_forge 0 = .ok (.aload_n 0, 1) := by decide +kernel
theorem dX10_forge_1 : decode cX10_forge 1 = .ok (.aload_n 0, 1) := by decide +kernel
theorem dX10_forge_2 : decode cX10_forge 2 = .ok (.iload_n 1, 1) := by decide +kernel
theorem dX10_forge_3 : decode cX10_forge 3 = .ok (.iload_n 2, 1) := by decide +kernel
theorem dX10_forge_4 : decode cX10_forge 4 = .ok (.iload_n 3, 1) := by decide +kernel
theorem dX10_forge_5 : decode cX10_forge 5 = .ok (.iload 4, 2) := by decide +kernel
theorem dX10_forge_7 : decode cX10_forge 7 = .ok (.iload 5, 2) := by decide +kernel
theorem dX10_forge_9 : decode cX10_forge 9 = .ok (.invokevirtual 133, 3) := by decide +kernel
theorem dX10_forge_12 : decode cX10_forge 12 = .ok (.invokevirtual 97, 3) := by decide +kernel
theorem dX10_forge_15 : decode cX10_forge 15 = .ok (.ireturn, 1) := by decide +kernel
theorem dX10_grace_0 : decode cX10_grace 0 = .ok (.aload_n 0, 1) := by decide +kernel
theorem dX10_grace_1 : decode cX10_grace 1 = .ok (.aload_n 0, 1) := by decide +kernel
theorem dX10_grace_2 : decode cX10_grace 2 = .ok (.iload_n 1, 1) := by decide +kernel
theorem dX10_grace_3 : decode cX10_grace 3 = .ok (.invokevirtual 106, 3) := by decide +kernel
theorem dX10_grace_6 : decode cX10_grace 6 = .ok (.invokevirtual 97, 3) := by decide +kernel
theorem dX10_grace_9 : decode cX10_grace 9 = .ok (.ireturn, 1) := by decide +kernel
theorem dX10_pass_0 : decode cX10_pass 0 = .ok (.aload_n 0, 1) := by decide +kernel
theorem dX10_pass_1 : decode cX10_pass 1 = .ok (.aload_n 0, 1) := by decide +kernel
theorem dX10_pass_2 : decode cX10_pass 2 = .ok (.iload_n 1, 1) := by decide +kernel
theorem dX10_pass_3 : decode cX10_pass 3 = .ok (.iload_n 2, 1) := by decide +kernel
theorem dX10_pass_4 : decode cX10_pass 4 = .ok (.bipush 9, 2) := by decide +kernel
theorem dX10_pass_6 : decode cX10_pass 6 = .ok (.if_icmp .le 10, 3) := by decide +kernel
theorem dX10_pass_9 : decode cX10_pass 9 = .ok (.iload_n 2, 1) := by decide +kernel
theorem dX10_pass_10 : decode cX10_pass 10 = .ok (.bipush 10, 2) := by decide +kernel
theorem dX10_pass_12 : decode cX10_pass 12 = .ok (.isub, 1) := by decide +kernel
theorem dX10_pass_13 : decode cX10_pass 13 = .ok (.goto 4, 3) := by decide +kernel
theorem dX10_pass_16 : decode cX10_pass 16 = .ok (.iload_n 2, 1) := by decide +kernel
theorem dX10_pass_17 : decode cX10_pass 17 = .ok (.iload_n 2, 1) := by decide +kernel
theorem dX10_pass_18 : decode cX10_pass 18 = .ok (.bipush 9, 2) := by decide +kernel
theorem dX10_pass_20 : decode cX10_pass 20 = .ok (.if_icmp .le 7, 3) := by decide +kernel
theorem dX10_pass_23 : decode cX10_pass 23 = .ok (.iconst 1, 1) := by decide +kernel
theorem dX10_pass_24 : decode cX10_pass 24 = .ok (.goto 4, 3) := by decide +kernel
theorem dX10_pass_27 : decode cX10_pass 27 = .ok (.iconst 0, 1) := by decide +kernel
theorem dX10_pass_28 : decode cX10_pass 28 = .ok (.iload_n 3, 1) := by decide +kernel
theorem dX10_pass_29 : decode cX10_pass 29 = .ok (.iload 4, 2) := by decide +kernel
theorem dX10_pass_31 : decode cX10_pass 31 = .ok (.iload 5, 2) := by decide +kernel
theorem dX10_pass_33 : decode cX10_pass 33 = .ok (.invokevirtual 129, 3) := by decide +kernel
theorem dX10_pass_36 : decode cX10_pass 36 = .ok (.invokevirtual 97, 3) := by decide +kernel
theorem dX10_pass_39 : decode cX10_pass 39 = .ok (.ireturn, 1) := by decide +kernel
theorem dX10_pay_0 : decode cX10_pay 0 = .ok (.aload_n 0, 1) := by decide +kernel
theorem dX10_pay_1 : decode cX10_pay 1 = .ok (.aload_n 0, 1) := by decide +kernel
theorem dX10_pay_2 : decode cX10_pay 2 = .ok (.iload_n 1, 1) := by decide +kernel
theorem dX10_pay_3 : decode cX10_pay 3 = .ok (.iload_n 2, 1) := by decide +kernel
theorem dX10_pay_4 : decode cX10_pay 4 = .ok (.invokevirtual 162, 3) := by decide +kernel
theorem dX10_pay_7 : decode cX10_pay 7 = .ok (.invokevirtual 97, 3) := by decide +kernel
theorem dX10_pay_10 : decode cX10_pay 10 = .ok (.ireturn, 1) := by decide +kernel
theorem dX10_present_0 : decode cX10_present 0 = .ok (.aload_n 0, 1) := by decide +kernel
theorem dX10_present_1 : decode cX10_present 1 = .ok (.iload_n 1, 1) := by decide +kernel
theorem dX10_present_2 : decode cX10_present 2 = .ok (.invokevirtual 153, 3) := by decide +kernel
theorem dX10_present_5 : decode cX10_present 5 = .ok (.istore_n 2, 1) := by decide +kernel
theorem dX10_present_6 : decode cX10_present 6 = .ok (.aload_n 0, 1) := by decide +kernel
theorem dX10_present_7 : decode cX10_present 7 = .ok (.iload_n 2, 1) := by decide +kernel
theorem dX10_present_8 : decode cX10_present 8 = .ok (.iconst 1, 1) := by decide +kernel
theorem dX10_present_9 : decode cX10_present 9 = .ok (.if_icmp .le 7, 3) := by decide +kernel
theorem dX10_present_12 : decode cX10_present 12 = .ok (.iload_n 2, 1) := by decide +kernel
theorem dX10_present_13 : decode cX10_present 13 = .ok (.goto 4, 3) := by decide +kernel
theorem dX10_present_16 : decode cX10_present 16 = .ok (.iconst 0, 1) := by decide +kernel
theorem dX10_present_17 : decode cX10_present 17 = .ok (.invokevirtual 97, 3) := by decide +kernel
theorem dX10_present_20 : decode cX10_present 20 = .ok (.istore_n 3, 1) := by decide +kernel
theorem dX10_present_21 : decode cX10_present 21 = .ok (.iload_n 2, 1) := by decide +kernel
theorem dX10_present_22 : decode cX10_present 22 = .ok (.ireturn, 1) := by decide +kernel
theorem dX10_release_0 : decode cX10_release 0 = .ok (.aload_n 0, 1) := by decide +kernel
theorem dX10_release_1 : decode cX10_release 1 = .ok (.aload_n 0, 1) := by decide +kernel
theorem dX10_release_2 : decode cX10_release 2 = .ok (.iload_n 1, 1) := by decide +kernel
theorem dX10_release_3 : decode cX10_release 3 = .ok (.iload_n 2, 1) := by decide +kernel
theorem dX10_release_4 : decode cX10_release 4 = .ok (.invokevirtual 159, 3) := by decide +kernel
theorem dX10_release_7 : decode cX10_release 7 = .ok (.invokevirtual 97, 3) := by decide +kernel
theorem dX10_release_10 : decode cX10_release 10 = .ok (.ireturn, 1) := by decide +kernel
theorem dX10_tell_0 : decode cX10_tell 0 = .ok (.aload_n 0, 1) := by decide +kernel
theorem dX10_tell_1 : decode cX10_tell 1 = .ok (.aload_n 0, 1) := by decide +kernel
theorem dX10_tell_2 : decode cX10_tell 2 = .ok (.iload_n 1, 1) := by decide +kernel
theorem dX10_tell_3 : decode cX10_tell 3 = .ok (.iload_n 2, 1) := by decide +kernel
theorem dX10_tell_4 : decode cX10_tell 4 = .ok (.iload_n 3, 1) := by decide +kernel
theorem dX10_tell_5 : decode cX10_tell 5 = .ok (.invokevirtual 156, 3) := by decide +kernel
theorem dX10_tell_8 : decode cX10_tell 8 = .ok (.invokevirtual 97, 3) := by decide +kernel
theorem dX10_tell_11 : decode cX10_tell 11 = .ok (.ireturn, 1) := by decide +kernel
