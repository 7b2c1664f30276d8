theorem dX10_isInTime_0 : decode cX10_isInTime 0 = .ok (.aload_n 0, 1) := by decide +kernel
theorem dX10_isInTime_1 : decode cX10_isInTime 1 = .ok (.getfield 7, 3) := by decide +kernel
theorem dX10_isInTime_4 : decode cX10_isInTime 4 = .ok (.iload_n 1, 1) := by decide +kernel
theorem dX10_isInTime_5 : decode cX10_isInTime 5 = .ok (.iconst 0, 1) := by decide +kernel
theorem dX10_isInTime_6 : decode cX10_isInTime 6 = .ok (.iadd, 1) := by decide +kernel
theorem dX10_isInTime_7 : decode cX10_isInTime 7 = .ok (.iaload, 1) := by decide +kernel
theorem dX10_isInTime_8 : decode cX10_isInTime 8 = .ok (.iload_n 2, 1) := by decide +kernel
theorem dX10_isInTime_9 : decode cX10_isInTime 9 = .ok (.isub, 1) := by decide +kernel
theorem dX10_isInTime_10 : decode cX10_isInTime 10 = .ok (.aload_n 0, 1) := by decide +kernel
theorem dX10_isInTime_11 : decode cX10_isInTime 11 = .ok (.getfield 7, 3) := by decide +kernel
theorem dX10_isInTime_14 : decode cX10_isInTime 14 = .ok (.iload_n 1, 1) := by decide +kernel
theorem dX10_isInTime_15 : decode cX10_isInTime 15 = .ok (.iconst 2, 1) := by decide +kernel
theorem dX10_isInTime_16 : decode cX10_isInTime 16 = .ok (.iadd, 1) := by decide +kernel
theorem dX10_isInTime_17 : decode cX10_isInTime 17 = .ok (.iaload, 1) := by decide +kernel
theorem dX10_isInTime_18 : decode cX10_isInTime 18 = .ok (.if_icmp .gt 7, 3) := by decide +kernel
theorem dX10_isInTime_21 : decode cX10_isInTime 21 = .ok (.iconst 1, 1) := by decide +kernel
theorem dX10_isInTime_22 : decode cX10_isInTime 22 = .ok (.goto 4, 3) := by decide +kernel
theorem dX10_isInTime_25 : decode cX10_isInTime 25 = .ok (.iconst 0, 1) := by decide +kernel
theorem dX10_isInTime_26 : decode cX10_isInTime 26 = .ok (.ireturn, 1) := by decide +kernel
theorem dX10_rank_0 : decode cX10_rank 0 = .ok (.iconst 1, 1) := by decide +kernel
theorem dX10_rank_1 : decode cX10_rank 1 = .ok (.istore_n 2, 1) := by decide +kernel
theorem dX10_rank_2 : decode cX10_rank 2 = .ok (.iload_n 2, 1) := by decide +kernel
theorem dX10_rank_3 : decode cX10_rank 3 = .ok (.iconst 1, 1) := by decide +kernel
theorem dX10_rank_4 : decode cX10_rank 4 = .ok (.aload_n 0, 1) := by decide +kernel
theorem dX10_rank_5 : decode cX10_rank 5 = .ok (.getfield 7, 3) := by decide +kernel
theorem dX10_rank_8 : decode cX10_rank 8 = .ok (.iload_n 1, 1) := by decide +kernel
theorem dX10_rank_9 : decode cX10_rank 9 = .ok (.bipush 8, 2) := by decide +kernel
theorem dX10_rank_11 : decode cX10_rank 11 = .ok (.iadd, 1) := by decide +kernel
theorem dX10_rank_12 : decode cX10_rank 12 = .ok (.iaload, 1) := by decide +kernel
theorem dX10_rank_13 : decode cX10_rank 13 = .ok (.iadd, 1) := by decide +kernel
theorem dX10_rank_14 : decode cX10_rank 14 = .ok (.if_icmp .gt 38, 3) := by decide +kernel
theorem dX10_rank_17 : decode cX10_rank 17 = .ok (.aload_n 0, 1) := by decide +kernel
theorem dX10_rank_18 : decode cX10_rank 18 = .ok (.iload_n 1, 1) := by decide +kernel
theorem dX10_rank_19 : decode cX10_rank 19 = .ok (.iload_n 2, 1) := by decide +kernel
theorem dX10_rank_20 : decode cX10_rank 20 = .ok (.invokevirtual 66, 3) := by decide +kernel
theorem dX10_rank_23 : decode cX10_rank 23 = .ok (.ifCond .eq 23, 3) := by decide +kernel
theorem dX10_rank_26 : decode cX10_rank 26 = .ok (.aload_n 0, 1) := by decide +kernel
theorem dX10_rank_27 : decode cX10_rank 27 = .ok (.iload_n 1, 1) := by decide +kernel
theorem dX10_rank_28 : decode cX10_rank 28 = .ok (.iload_n 2, 1) := by decide +kernel
theorem dX10_rank_29 : decode cX10_rank 29 = .ok (.invokevirtual 41, 3) := by decide +kernel
theorem dX10_rank_32 : decode cX10_rank 32 = .ok (.aload_n 0, 1) := by decide +kernel
theorem dX10_rank_33 : decode cX10_rank 33 = .ok (.getfield 7, 3) := by decide +kernel
theorem dX10_rank_36 : decode cX10_rank 36 = .ok (.iload_n 1, 1) := by decide +kernel
theorem dX10_rank_37 : decode cX10_rank 37 = .ok (.bipush 7, 2) := by decide +kernel
theorem dX10_rank_39 : decode cX10_rank 39 = .ok (.iadd, 1) := by decide +kernel
theorem dX10_rank_40 : decode cX10_rank 40 = .ok (.iaload, 1) := by decide +kernel
theorem dX10_rank_41 : decode cX10_rank 41 = .ok (.if_icmp .ne 5, 3) := by decide +kernel
theorem dX10_rank_44 : decode cX10_rank 44 = .ok (.iload_n 2, 1) := by decide +kernel
theorem dX10_rank_45 : decode cX10_rank 45 = .ok (.ireturn, 1) := by decide +kernel
theorem dX10_rank_46 : decode cX10_rank 46 = .ok (.iinc 2 1, 3) := by decide +kernel
theorem dX10_rank_49 : decode cX10_rank 49 = .ok (.goto (-47), 3) := by decide +kernel
theorem dX10_rank_52 : decode cX10_rank 52 = .ok (.iconst 2, 1) := by decide +kernel
theorem dX10_rank_53 : decode cX10_rank 53 = .ok (.aload_n 0, 1) := by decide +kernel
theorem dX10_rank_54 : decode cX10_rank 54 = .ok (.getfield 7, 3) := by decide +kernel
theorem dX10_rank_57 : decode cX10_rank 57 = .ok (.iload_n 1, 1) := by decide +kernel
theorem dX10_rank_58 : decode cX10_rank 58 = .ok (.bipush 8, 2) := by decide +kernel
theorem dX10_rank_60 : decode cX10_rank 60 = .ok (.iadd, 1) := by decide +kernel
theorem dX10_rank_61 : decode cX10_rank 61 = .ok (.iaload, 1) := by decide +kernel
theorem dX10_rank_62 : decode cX10_rank 62 = .ok (.iadd, 1) := by decide +kernel
theorem dX10_rank_63 : decode cX10_rank 63 = .ok (.ireturn, 1) := by decide +kernel
