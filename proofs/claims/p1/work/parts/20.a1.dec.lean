theorem dX10_told_7 : decode cX10_told 7 = .ok (.aload_n 0, 1) := by decide +kernel
theorem dX10_told_8 : decode cX10_told 8 = .ok (.getfield 7, 3) := by decide +kernel
theorem dX10_told_11 : decode cX10_told 11 = .ok (.iconst 4, 1) := by decide +kernel
theorem dX10_told_12 : decode cX10_told 12 = .ok (.dup2, 1) := by decide +kernel
theorem dX10_told_13 : decode cX10_told 13 = .ok (.iaload, 1) := by decide +kernel
theorem dX10_told_14 : decode cX10_told 14 = .ok (.iload_n 1, 1) := by decide +kernel
theorem dX10_told_15 : decode cX10_told 15 = .ok (.ifCond .le 7, 3) := by decide +kernel
theorem dX10_told_18 : decode cX10_told 18 = .ok (.iconst 1, 1) := by decide +kernel
theorem dX10_told_19 : decode cX10_told 19 = .ok (.goto 4, 3) := by decide +kernel
theorem dX10_told_22 : decode cX10_told 22 = .ok (.iconst 0, 1) := by decide +kernel
theorem dX10_told_23 : decode cX10_told 23 = .ok (.iadd, 1) := by decide +kernel
theorem dX10_told_24 : decode cX10_told 24 = .ok (.iastore, 1) := by decide +kernel
theorem dX10_told_25 : decode cX10_told 25 = .ok (.iload_n 1, 1) := by decide +kernel
theorem dX10_told_26 : decode cX10_told 26 = .ok (.ireturn, 1) := by decide +kernel
theorem dX10_until_0 : decode cX10_until 0 = .ok (.aload_n 0, 1) := by decide +kernel
theorem dX10_until_1 : decode cX10_until 1 = .ok (.iload_n 1, 1) := by decide +kernel
theorem dX10_until_2 : decode cX10_until 2 = .ok (.iload_n 2, 1) := by decide +kernel
theorem dX10_until_3 : decode cX10_until 3 = .ok (.invokevirtual 143, 3) := by decide +kernel
theorem dX10_until_6 : decode cX10_until 6 = .ok (.ifCond .eq 7, 3) := by decide +kernel
theorem dX10_until_13 : decode cX10_until 13 = .ok (.iconst (-1), 1) := by decide +kernel
theorem dX10_until_14 : decode cX10_until 14 = .ok (.ireturn, 1) := by decide +kernel
theorem dX10_why_0 : decode cX10_why 0 = .ok (.aload_n 0, 1) := by decide +kernel
theorem dX10_why_1 : decode cX10_why 1 = .ok (.iload_n 1, 1) := by decide +kernel
theorem dX10_why_2 : decode cX10_why 2 = .ok (.invokevirtual 116, 3) := by decide +kernel
theorem dX10_why_5 : decode cX10_why 5 = .ok (.ifCond .eq 35, 3) := by decide +kernel
theorem dX10_why_40 : decode cX10_why 40 = .ok (.bipush (-2), 2) := by decide +kernel
theorem dX10_why_42 : decode cX10_why 42 = .ok (.ireturn, 1) := by decide +kernel
theorem dX10_worth_0 : decode cX10_worth 0 = .ok (.iload_n 1, 1) := by decide +kernel
theorem dX10_worth_1 : decode cX10_worth 1 = .ok (.invokestatic 100, 3) := by decide +kernel
theorem dX10_worth_4 : decode cX10_worth 4 = .ok (.ifCond .ne 5, 3) := by decide +kernel
theorem dX10_worth_7 : decode cX10_worth 7 = .ok (.iconst (-1), 1) := by decide +kernel
theorem dX10_worth_8 : decode cX10_worth 8 = .ok (.ireturn, 1) := by decide +kernel
theorem dX10_worth_9 : decode cX10_worth 9 = .ok (.iconst 0, 1) := by decide +kernel
theorem dX10_worth_10 : decode cX10_worth 10 = .ok (.istore_n 2, 1) := by decide +kernel
theorem dX10_worth_11 : decode cX10_worth 11 = .ok (.iconst 0, 1) := by decide +kernel
theorem dX10_worth_12 : decode cX10_worth 12 = .ok (.istore_n 3, 1) := by decide +kernel
theorem dX10_worth_13 : decode cX10_worth 13 = .ok (.iload_n 3, 1) := by decide +kernel
theorem dX10_worth_14 : decode cX10_worth 14 = .ok (.aload_n 0, 1) := by decide +kernel
theorem dX10_worth_15 : decode cX10_worth 15 = .ok (.getfield 7, 3) := by decide +kernel
theorem dX10_worth_18 : decode cX10_worth 18 = .ok (.iconst 1, 1) := by decide +kernel
theorem dX10_worth_19 : decode cX10_worth 19 = .ok (.iaload, 1) := by decide +kernel
theorem dX10_worth_20 : decode cX10_worth 20 = .ok (.if_icmp .ge 78, 3) := by decide +kernel
theorem dX10_worth_98 : decode cX10_worth 98 = .ok (.iload_n 2, 1) := by decide +kernel
theorem dX10_worth_99 : decode cX10_worth 99 = .ok (.ireturn, 1) := by decide +kernel
