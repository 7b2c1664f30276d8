theorem dX10_bitsOf_0 : decode cX10_bitsOf 0 = .ok (.iconst 0, 1) := by decide +kernel
theorem dX10_bitsOf_1 : decode cX10_bitsOf 1 = .ok (.istore_n 1, 1) := by decide +kernel
theorem dX10_bitsOf_2 : decode cX10_bitsOf 2 = .ok (.iload_n 0, 1) := by decide +kernel
theorem dX10_bitsOf_3 : decode cX10_bitsOf 3 = .ok (.istore_n 2, 1) := by decide +kernel
theorem dX10_bitsOf_4 : decode cX10_bitsOf 4 = .ok (.iload_n 2, 1) := by decide +kernel
theorem dX10_bitsOf_5 : decode cX10_bitsOf 5 = .ok (.ifCond .eq 15, 3) := by decide +kernel
theorem dX10_bitsOf_8 : decode cX10_bitsOf 8 = .ok (.iinc 1 1, 3) := by decide +kernel
theorem dX10_bitsOf_11 : decode cX10_bitsOf 11 = .ok (.iload_n 2, 1) := by decide +kernel
theorem dX10_bitsOf_12 : decode cX10_bitsOf 12 = .ok (.iload_n 2, 1) := by decide +kernel
theorem dX10_bitsOf_13 : decode cX10_bitsOf 13 = .ok (.iconst 1, 1) := by decide +kernel
theorem dX10_bitsOf_14 : decode cX10_bitsOf 14 = .ok (.isub, 1) := by decide +kernel
theorem dX10_bitsOf_15 : decode cX10_bitsOf 15 = .ok (.iand, 1) := by decide +kernel
theorem dX10_bitsOf_16 : decode cX10_bitsOf 16 = .ok (.istore_n 2, 1) := by decide +kernel
theorem dX10_bitsOf_17 : decode cX10_bitsOf 17 = .ok (.goto (-13), 3) := by decide +kernel
theorem dX10_bitsOf_20 : decode cX10_bitsOf 20 = .ok (.iload_n 1, 1) := by decide +kernel
theorem dX10_bitsOf_21 : decode cX10_bitsOf 21 = .ok (.ireturn, 1) := by decide +kernel
theorem dX10_copies_0 : decode cX10_copies 0 = .ok (.iconst 0, 1) := by decide +kernel
theorem dX10_copies_1 : decode cX10_copies 1 = .ok (.istore_n 3, 1) := by decide +kernel
theorem dX10_copies_2 : decode cX10_copies 2 = .ok (.iload_n 3, 1) := by decide +kernel
theorem dX10_copies_3 : decode cX10_copies 3 = .ok (.sipush 1140, 3) := by decide +kernel
theorem dX10_copies_6 : decode cX10_copies 6 = .ok (.if_icmp .ge 25, 3) := by decide +kernel
theorem dX10_copies_9 : decode cX10_copies 9 = .ok (.aload_n 0, 1) := by decide +kernel
theorem dX10_copies_10 : decode cX10_copies 10 = .ok (.getfield 7, 3) := by decide +kernel
theorem dX10_copies_13 : decode cX10_copies 13 = .ok (.iload_n 2, 1) := by decide +kernel
theorem dX10_copies_14 : decode cX10_copies 14 = .ok (.iload_n 3, 1) := by decide +kernel
theorem dX10_copies_15 : decode cX10_copies 15 = .ok (.iadd, 1) := by decide +kernel
theorem dX10_copies_16 : decode cX10_copies 16 = .ok (.aload_n 0, 1) := by decide +kernel
theorem dX10_copies_17 : decode cX10_copies 17 = .ok (.getfield 7, 3) := by decide +kernel
theorem dX10_copies_20 : decode cX10_copies 20 = .ok (.iload_n 1, 1) := by decide +kernel
theorem dX10_copies_21 : decode cX10_copies 21 = .ok (.iload_n 3, 1) := by decide +kernel
theorem dX10_copies_22 : decode cX10_copies 22 = .ok (.iadd, 1) := by decide +kernel
theorem dX10_copies_23 : decode cX10_copies 23 = .ok (.iaload, 1) := by decide +kernel
theorem dX10_copies_24 : decode cX10_copies 24 = .ok (.iastore, 1) := by decide +kernel
theorem dX10_copies_25 : decode cX10_copies 25 = .ok (.iinc 3 1, 3) := by decide +kernel
theorem dX10_copies_28 : decode cX10_copies 28 = .ok (.goto (-26), 3) := by decide +kernel
theorem dX10_copies_31 : decode cX10_copies 31 = .ok (.return_, 1) := by decide +kernel
theorem dX10_cure_0 : decode cX10_cure 0 = .ok (.iconst 0, 1) := by decide +kernel
theorem dX10_cure_1 : decode cX10_cure 1 = .ok (.iload_n 1, 1) := by decide +kernel
theorem dX10_cure_2 : decode cX10_cure 2 = .ok (.invokestatic 109, 3) := by decide +kernel
theorem dX10_cure_5 : decode cX10_cure 5 = .ok (.istore_n 2, 1) := by decide +kernel
theorem dX10_cure_6 : decode cX10_cure 6 = .ok (.iconst 0, 1) := by decide +kernel
theorem dX10_cure_7 : decode cX10_cure 7 = .ok (.istore_n 3, 1) := by decide +kernel
theorem dX10_cure_8 : decode cX10_cure 8 = .ok (.aload_n 0, 1) := by decide +kernel
theorem dX10_cure_9 : decode cX10_cure 9 = .ok (.getfield 7, 3) := by decide +kernel
theorem dX10_cure_12 : decode cX10_cure 12 = .ok (.iload_n 2, 1) := by decide +kernel
theorem dX10_cure_13 : decode cX10_cure 13 = .ok (.bipush 18, 2) := by decide +kernel
theorem dX10_cure_15 : decode cX10_cure 15 = .ok (.iadd, 1) := by decide +kernel
theorem dX10_cure_16 : decode cX10_cure 16 = .ok (.iaload, 1) := by decide +kernel
theorem dX10_cure_17 : decode cX10_cure 17 = .ok (.istore 4, 2) := by decide +kernel
theorem dX10_cure_19 : decode cX10_cure 19 = .ok (.iload 4, 2) := by decide +kernel
theorem dX10_cure_21 : decode cX10_cure 21 = .ok (.aload_n 0, 1) := by decide +kernel
theorem dX10_cure_22 : decode cX10_cure 22 = .ok (.getfield 7, 3) := by decide +kernel
theorem dX10_cure_25 : decode cX10_cure 25 = .ok (.iload_n 2, 1) := by decide +kernel
theorem dX10_cure_26 : decode cX10_cure 26 = .ok (.bipush 8, 2) := by decide +kernel
theorem dX10_cure_28 : decode cX10_cure 28 = .ok (.iadd, 1) := by decide +kernel
theorem dX10_cure_29 : decode cX10_cure 29 = .ok (.iaload, 1) := by decide +kernel
theorem dX10_cure_30 : decode cX10_cure 30 = .ok (.if_icmp .ge 29, 3) := by decide +kernel
theorem dX10_cure_33 : decode cX10_cure 33 = .ok (.iload_n 3, 1) := by decide +kernel
theorem dX10_cure_34 : decode cX10_cure 34 = .ok (.aload_n 0, 1) := by decide +kernel
theorem dX10_cure_35 : decode cX10_cure 35 = .ok (.getfield 7, 3) := by decide +kernel
theorem dX10_cure_38 : decode cX10_cure 38 = .ok (.iload_n 2, 1) := by decide +kernel
theorem dX10_cure_39 : decode cX10_cure 39 = .ok (.iload 4, 2) := by decide +kernel
theorem dX10_cure_41 : decode cX10_cure 41 = .ok (.invokestatic 37, 3) := by decide +kernel
theorem dX10_cure_44 : decode cX10_cure 44 = .ok (.bipush 11, 2) := by decide +kernel
theorem dX10_cure_46 : decode cX10_cure 46 = .ok (.iadd, 1) := by decide +kernel
theorem dX10_cure_47 : decode cX10_cure 47 = .ok (.iaload, 1) := by decide +kernel
theorem dX10_cure_48 : decode cX10_cure 48 = .ok (.iload 4, 2) := by decide +kernel
theorem dX10_cure_50 : decode cX10_cure 50 = .ok (.ishl, 1) := by decide +kernel
theorem dX10_cure_51 : decode cX10_cure 51 = .ok (.ior, 1) := by decide +kernel
theorem dX10_cure_52 : decode cX10_cure 52 = .ok (.istore_n 3, 1) := by decide +kernel
theorem dX10_cure_53 : decode cX10_cure 53 = .ok (.iinc 4 1, 3) := by decide +kernel
theorem dX10_cure_56 : decode cX10_cure 56 = .ok (.goto (-37), 3) := by decide +kernel
theorem dX10_cure_59 : decode cX10_cure 59 = .ok (.iconst (-1), 1) := by decide +kernel
theorem dX10_cure_60 : decode cX10_cure 60 = .ok (.istore 4, 2) := by decide +kernel
theorem dX10_cure_62 : decode cX10_cure 62 = .ok (.iconst 0, 1) := by decide +kernel
theorem dX10_cure_63 : decode cX10_cure 63 = .ok (.istore 5, 2) := by decide +kernel
theorem dX10_cure_65 : decode cX10_cure 65 = .ok (.iload 5, 2) := by decide +kernel
theorem dX10_cure_67 : decode cX10_cure 67 = .ok (.sipush 4096, 3) := by decide +kernel
theorem dX10_cure_70 : decode cX10_cure 70 = .ok (.if_icmp .ge 53, 3) := by decide +kernel
theorem dX10_cure_73 : decode cX10_cure 73 = .ok (.iload 5, 2) := by decide +kernel
theorem dX10_cure_75 : decode cX10_cure 75 = .ok (.iload_n 3, 1) := by decide +kernel
theorem dX10_cure_76 : decode cX10_cure 76 = .ok (.iconst (-1), 1) := by decide +kernel
theorem dX10_cure_77 : decode cX10_cure 77 = .ok (.ixor, 1) := by decide +kernel
theorem dX10_cure_78 : decode cX10_cure 78 = .ok (.iand, 1) := by decide +kernel
theorem dX10_cure_79 : decode cX10_cure 79 = .ok (.ifCond .ne 38, 3) := by decide +kernel
theorem dX10_cure_82 : decode cX10_cure 82 = .ok (.iload 4, 2) := by decide +kernel
theorem dX10_cure_84 : decode cX10_cure 84 = .ok (.ifCond .lt 16, 3) := by decide +kernel
theorem dX10_cure_87 : decode cX10_cure 87 = .ok (.iload 5, 2) := by decide +kernel
theorem dX10_cure_89 : decode cX10_cure 89 = .ok (.invokestatic 171, 3) := by decide +kernel
theorem dX10_cure_92 : decode cX10_cure 92 = .ok (.iload 4, 2) := by decide +kernel
theorem dX10_cure_94 : decode cX10_cure 94 = .ok (.if_icmp .lt 6, 3) := by decide +kernel
theorem dX10_cure_97 : decode cX10_cure 97 = .ok (.goto 20, 3) := by decide +kernel
theorem dX10_cure_100 : decode cX10_cure 100 = .ok (.aload_n 0, 1) := by decide +kernel
theorem dX10_cure_101 : decode cX10_cure 101 = .ok (.iload_n 1, 1) := by decide +kernel
theorem dX10_cure_102 : decode cX10_cure 102 = .ok (.iload 5, 2) := by decide +kernel
theorem dX10_cure_104 : decode cX10_cure 104 = .ok (.invokevirtual 174, 3) := by decide +kernel
theorem dX10_cure_107 : decode cX10_cure 107 = .ok (.ifCond .eq 10, 3) := by decide +kernel
theorem dX10_cure_110 : decode cX10_cure 110 = .ok (.iload 5, 2) := by decide +kernel
theorem dX10_cure_112 : decode cX10_cure 112 = .ok (.invokestatic 171, 3) := by decide +kernel
theorem dX10_cure_115 : decode cX10_cure 115 = .ok (.istore 4, 2) := by decide +kernel
theorem dX10_cure_117 : decode cX10_cure 117 = .ok (.iinc 5 1, 3) := by decide +kernel
theorem dX10_cure_120 : decode cX10_cure 120 = .ok (.goto (-55), 3) := by decide +kernel
theorem dX10_cure_123 : decode cX10_cure 123 = .ok (.iload 4, 2) := by decide +kernel
theorem dX10_cure_125 : decode cX10_cure 125 = .ok (.ireturn, 1) := by decide +kernel
theorem dX10_isCured_0 : decode cX10_isCured 0 = .ok (.sipush 1140, 3) := by decide +kernel
theorem dX10_isCured_3 : decode cX10_isCured 3 = .ok (.iload_n 1, 1) := by decide +kernel
theorem dX10_isCured_4 : decode cX10_isCured 4 = .ok (.invokestatic 109, 3) := by decide +kernel
theorem dX10_isCured_7 : decode cX10_isCured 7 = .ok (.istore_n 3, 1) := by decide +kernel
theorem dX10_isCured_8 : decode cX10_isCured 8 = .ok (.iconst 0, 1) := by decide +kernel
theorem dX10_isCured_9 : decode cX10_isCured 9 = .ok (.istore 4, 2) := by decide +kernel
theorem dX10_isCured_11 : decode cX10_isCured 11 = .ok (.iload 4, 2) := by decide +kernel
theorem dX10_isCured_13 : decode cX10_isCured 13 = .ok (.sipush 280, 3) := by decide +kernel
theorem dX10_isCured_16 : decode cX10_isCured 16 = .ok (.if_icmp .ge 31, 3) := by decide +kernel
theorem dX10_isCured_19 : decode cX10_isCured 19 = .ok (.aload_n 0, 1) := by decide +kernel
theorem dX10_isCured_20 : decode cX10_isCured 20 = .ok (.getfield 7, 3) := by decide +kernel
theorem dX10_isCured_23 : decode cX10_isCured 23 = .ok (.iload_n 3, 1) := by decide +kernel
theorem dX10_isCured_24 : decode cX10_isCured 24 = .ok (.iload 4, 2) := by decide +kernel
theorem dX10_isCured_26 : decode cX10_isCured 26 = .ok (.iadd, 1) := by decide +kernel
theorem dX10_isCured_27 : decode cX10_isCured 27 = .ok (.aload_n 0, 1) := by decide +kernel
theorem dX10_isCured_28 : decode cX10_isCured 28 = .ok (.getfield 7, 3) := by decide +kernel
theorem dX10_isCured_31 : decode cX10_isCured 31 = .ok (.iconst 0, 1) := by decide +kernel
theorem dX10_isCured_32 : decode cX10_isCured 32 = .ok (.iload_n 1, 1) := by decide +kernel
theorem dX10_isCured_33 : decode cX10_isCured 33 = .ok (.invokestatic 109, 3) := by decide +kernel
theorem dX10_isCured_36 : decode cX10_isCured 36 = .ok (.iload 4, 2) := by decide +kernel
theorem dX10_isCured_38 : decode cX10_isCured 38 = .ok (.iadd, 1) := by decide +kernel
theorem dX10_isCured_39 : decode cX10_isCured 39 = .ok (.iaload, 1) := by decide +kernel
theorem dX10_isCured_40 : decode cX10_isCured 40 = .ok (.iastore, 1) := by decide +kernel
theorem dX10_isCured_41 : decode cX10_isCured 41 = .ok (.iinc 4 1, 3) := by decide +kernel
theorem dX10_isCured_44 : decode cX10_isCured 44 = .ok (.goto (-33), 3) := by decide +kernel
theorem dX10_isCured_47 : decode cX10_isCured 47 = .ok (.aload_n 0, 1) := by decide +kernel
theorem dX10_isCured_48 : decode cX10_isCured 48 = .ok (.iload_n 3, 1) := by decide +kernel
theorem dX10_isCured_49 : decode cX10_isCured 49 = .ok (.invokevirtual 91, 3) := by decide +kernel
theorem dX10_isCured_52 : decode cX10_isCured 52 = .ok (.aload_n 0, 1) := by decide +kernel
theorem dX10_isCured_53 : decode cX10_isCured 53 = .ok (.getfield 7, 3) := by decide +kernel
theorem dX10_isCured_56 : decode cX10_isCured 56 = .ok (.iload_n 3, 1) := by decide +kernel
theorem dX10_isCured_57 : decode cX10_isCured 57 = .ok (.bipush 18, 2) := by decide +kernel
theorem dX10_isCured_59 : decode cX10_isCured 59 = .ok (.iadd, 1) := by decide +kernel
theorem dX10_isCured_60 : decode cX10_isCured 60 = .ok (.iaload, 1) := by decide +kernel
theorem dX10_isCured_61 : decode cX10_isCured 61 = .ok (.istore 4, 2) := by decide +kernel
theorem dX10_isCured_63 : decode cX10_isCured 63 = .ok (.iload 4, 2) := by decide +kernel
theorem dX10_isCured_65 : decode cX10_isCured 65 = .ok (.aload_n 0, 1) := by decide +kernel
theorem dX10_isCured_66 : decode cX10_isCured 66 = .ok (.getfield 7, 3) := by decide +kernel
theorem dX10_isCured_69 : decode cX10_isCured 69 = .ok (.iload_n 3, 1) := by decide +kernel
theorem dX10_isCured_70 : decode cX10_isCured 70 = .ok (.bipush 8, 2) := by decide +kernel
theorem dX10_isCured_72 : decode cX10_isCured 72 = .ok (.iadd, 1) := by decide +kernel
theorem dX10_isCured_73 : decode cX10_isCured 73 = .ok (.iaload, 1) := by decide +kernel
theorem dX10_isCured_74 : decode cX10_isCured 74 = .ok (.if_icmp .ge 31, 3) := by decide +kernel
theorem dX10_isCured_77 : decode cX10_isCured 77 = .ok (.aload_n 0, 1) := by decide +kernel
theorem dX10_isCured_78 : decode cX10_isCured 78 = .ok (.iload_n 3, 1) := by decide +kernel
theorem dX10_isCured_79 : decode cX10_isCured 79 = .ok (.iload 4, 2) := by decide +kernel
theorem dX10_isCured_81 : decode cX10_isCured 81 = .ok (.iload_n 2, 1) := by decide +kernel
theorem dX10_isCured_82 : decode cX10_isCured 82 = .ok (.iload 4, 2) := by decide +kernel
theorem dX10_isCured_84 : decode cX10_isCured 84 = .ok (.ishr, 1) := by decide +kernel
theorem dX10_isCured_85 : decode cX10_isCured 85 = .ok (.iconst 1, 1) := by decide +kernel
theorem dX10_isCured_86 : decode cX10_isCured 86 = .ok (.iand, 1) := by decide +kernel
theorem dX10_isCured_87 : decode cX10_isCured 87 = .ok (.iconst 1, 1) := by decide +kernel
theorem dX10_isCured_88 : decode cX10_isCured 88 = .ok (.if_icmp .ne 7, 3) := by decide +kernel
theorem dX10_isCured_91 : decode cX10_isCured 91 = .ok (.iconst 1, 1) := by decide +kernel
theorem dX10_isCured_92 : decode cX10_isCured 92 = .ok (.goto 4, 3) := by decide +kernel
theorem dX10_isCured_95 : decode cX10_isCured 95 = .ok (.iconst 0, 1) := by decide +kernel
theorem dX10_isCured_96 : decode cX10_isCured 96 = .ok (.invokevirtual 63, 3) := by decide +kernel
theorem dX10_isCured_99 : decode cX10_isCured 99 = .ok (.iinc 4 1, 3) := by decide +kernel
theorem dX10_isCured_102 : decode cX10_isCured 102 = .ok (.goto (-39), 3) := by decide +kernel
theorem dX10_isCured_105 : decode cX10_isCured 105 = .ok (.aload_n 0, 1) := by decide +kernel
theorem dX10_isCured_106 : decode cX10_isCured 106 = .ok (.iload_n 3, 1) := by decide +kernel
theorem dX10_isCured_107 : decode cX10_isCured 107 = .ok (.invokevirtual 70, 3) := by decide +kernel
theorem dX10_isCured_110 : decode cX10_isCured 110 = .ok (.ireturn, 1) := by decide +kernel
theorem dX10_runs_0 : decode cX10_runs 0 = .ok (.aload_n 0, 1) := by decide +kernel
theorem dX10_runs_1 : decode cX10_runs 1 = .ok (.iconst 0, 1) := by decide +kernel
theorem dX10_runs_2 : decode cX10_runs 2 = .ok (.sipush 1140, 3) := by decide +kernel
theorem dX10_runs_5 : decode cX10_runs 5 = .ok (.invokevirtual 165, 3) := by decide +kernel
theorem dX10_runs_8 : decode cX10_runs 8 = .ok (.sipush 1140, 3) := by decide +kernel
theorem dX10_runs_11 : decode cX10_runs 11 = .ok (.iload_n 1, 1) := by decide +kernel
theorem dX10_runs_12 : decode cX10_runs 12 = .ok (.invokestatic 109, 3) := by decide +kernel
theorem dX10_runs_15 : decode cX10_runs 15 = .ok (.istore_n 2, 1) := by decide +kernel
theorem dX10_runs_16 : decode cX10_runs 16 = .ok (.iconst 0, 1) := by decide +kernel
theorem dX10_runs_17 : decode cX10_runs 17 = .ok (.istore_n 3, 1) := by decide +kernel
theorem dX10_runs_18 : decode cX10_runs 18 = .ok (.aload_n 0, 1) := by decide +kernel
theorem dX10_runs_19 : decode cX10_runs 19 = .ok (.sipush 1140, 3) := by decide +kernel
theorem dX10_runs_22 : decode cX10_runs 22 = .ok (.iload_n 2, 1) := by decide +kernel
theorem dX10_runs_23 : decode cX10_runs 23 = .ok (.invokevirtual 168, 3) := by decide +kernel
theorem dX10_runs_26 : decode cX10_runs 26 = .ok (.istore 4, 2) := by decide +kernel
theorem dX10_runs_28 : decode cX10_runs 28 = .ok (.iload 4, 2) := by decide +kernel
theorem dX10_runs_30 : decode cX10_runs 30 = .ok (.ifCond .lt 39, 3) := by decide +kernel
theorem dX10_runs_33 : decode cX10_runs 33 = .ok (.aload_n 0, 1) := by decide +kernel
theorem dX10_runs_34 : decode cX10_runs 34 = .ok (.sipush 1140, 3) := by decide +kernel
theorem dX10_runs_37 : decode cX10_runs 37 = .ok (.iload_n 2, 1) := by decide +kernel
theorem dX10_runs_38 : decode cX10_runs 38 = .ok (.iload 4, 2) := by decide +kernel
theorem dX10_runs_40 : decode cX10_runs 40 = .ok (.invokevirtual 150, 3) := by decide +kernel
theorem dX10_runs_43 : decode cX10_runs 43 = .ok (.istore 5, 2) := by decide +kernel
theorem dX10_runs_45 : decode cX10_runs 45 = .ok (.aload_n 0, 1) := by decide +kernel
theorem dX10_runs_46 : decode cX10_runs 46 = .ok (.getfield 24, 3) := by decide +kernel
theorem dX10_runs_49 : decode cX10_runs 49 = .ok (.iload_n 3, 1) := by decide +kernel
theorem dX10_runs_50 : decode cX10_runs 50 = .ok (.iload 4, 2) := by decide +kernel
theorem dX10_runs_52 : decode cX10_runs 52 = .ok (.iastore, 1) := by decide +kernel
theorem dX10_runs_53 : decode cX10_runs 53 = .ok (.iinc 3 1, 3) := by decide +kernel
theorem dX10_runs_56 : decode cX10_runs 56 = .ok (.aload_n 0, 1) := by decide +kernel
theorem dX10_runs_57 : decode cX10_runs 57 = .ok (.sipush 1140, 3) := by decide +kernel
theorem dX10_runs_60 : decode cX10_runs 60 = .ok (.iload_n 2, 1) := by decide +kernel
theorem dX10_runs_61 : decode cX10_runs 61 = .ok (.invokevirtual 168, 3) := by decide +kernel
theorem dX10_runs_64 : decode cX10_runs 64 = .ok (.istore 4, 2) := by decide +kernel
theorem dX10_runs_66 : decode cX10_runs 66 = .ok (.goto (-38), 3) := by decide +kernel
theorem dX10_runs_69 : decode cX10_runs 69 = .ok (.iload_n 3, 1) := by decide +kernel
theorem dX10_runs_70 : decode cX10_runs 70 = .ok (.ireturn, 1) := by decide +kernel
