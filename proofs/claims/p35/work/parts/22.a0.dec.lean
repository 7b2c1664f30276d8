theorem dX4_faultPlace_0 : decode cX4_faultPlace 0 = .ok (.iconst 0, 1) := by decide +kernel
theorem dX4_faultPlace_1 : decode cX4_faultPlace 1 = .ok (.istore_n 1, 1) := by decide +kernel
theorem dX4_faultPlace_2 : decode cX4_faultPlace 2 = .ok (.iload_n 1, 1) := by decide +kernel
theorem dX4_faultPlace_3 : decode cX4_faultPlace 3 = .ok (.aload_n 0, 1) := by decide +kernel
theorem dX4_faultPlace_4 : decode cX4_faultPlace 4 = .ok (.getfield 34, 3) := by decide +kernel
theorem dX4_faultPlace_7 : decode cX4_faultPlace 7 = .ok (.if_icmp .gt 28, 3) := by decide +kernel
theorem dX4_faultPlace_10 : decode cX4_faultPlace 10 = .ok (.aload_n 0, 1) := by decide +kernel
theorem dX4_faultPlace_11 : decode cX4_faultPlace 11 = .ok (.getfield 44, 3) := by decide +kernel
theorem dX4_faultPlace_14 : decode cX4_faultPlace 14 = .ok (.ifCond .eq 21, 3) := by decide +kernel
theorem dX4_faultPlace_17 : decode cX4_faultPlace 17 = .ok (.aload_n 0, 1) := by decide +kernel
theorem dX4_faultPlace_18 : decode cX4_faultPlace 18 = .ok (.invokevirtual 47, 3) := by decide +kernel
theorem dX4_faultPlace_21 : decode cX4_faultPlace 21 = .ok (.ifCond .ne 8, 3) := by decide +kernel
theorem dX4_faultPlace_24 : decode cX4_faultPlace 24 = .ok (.aload_n 0, 1) := by decide +kernel
theorem dX4_faultPlace_25 : decode cX4_faultPlace 25 = .ok (.getfield 51, 3) := by decide +kernel
theorem dX4_faultPlace_28 : decode cX4_faultPlace 28 = .ok (.ireturn, 1) := by decide +kernel
theorem dX4_faultPlace_29 : decode cX4_faultPlace 29 = .ok (.iinc 1 1, 3) := by decide +kernel
theorem dX4_faultPlace_32 : decode cX4_faultPlace 32 = .ok (.goto (-30), 3) := by decide +kernel
theorem dX4_faultPlace_35 : decode cX4_faultPlace 35 = .ok (.iconst (-1), 1) := by decide +kernel
theorem dX4_faultPlace_36 : decode cX4_faultPlace 36 = .ok (.ireturn, 1) := by decide +kernel
theorem dX4_isWord_0 : decode cX4_isWord 0 = .ok (.aload_n 0, 1) := by decide +kernel
theorem dX4_isWord_1 : decode cX4_isWord 1 = .ok (.getfield 44, 3) := by decide +kernel
theorem dX4_isWord_4 : decode cX4_isWord 4 = .ok (.iconst 1, 1) := by decide +kernel
theorem dX4_isWord_5 : decode cX4_isWord 5 = .ok (.if_icmp .ne 19, 3) := by decide +kernel
theorem dX4_isWord_8 : decode cX4_isWord 8 = .ok (.aload_n 0, 1) := by decide +kernel
theorem dX4_isWord_9 : decode cX4_isWord 9 = .ok (.getfield 38, 3) := by decide +kernel
theorem dX4_isWord_12 : decode cX4_isWord 12 = .ok (.aload_n 0, 1) := by decide +kernel
theorem dX4_isWord_13 : decode cX4_isWord 13 = .ok (.getfield 51, 3) := by decide +kernel
theorem dX4_isWord_16 : decode cX4_isWord 16 = .ok (.isub, 1) := by decide +kernel
theorem dX4_isWord_17 : decode cX4_isWord 17 = .ok (.aload_n 1, 1) := by decide +kernel
theorem dX4_isWord_18 : decode cX4_isWord 18 = .ok (.invokevirtual 89, 3) := by decide +kernel
theorem dX4_isWord_21 : decode cX4_isWord 21 = .ok (.if_icmp .eq 5, 3) := by decide +kernel
theorem dX4_isWord_24 : decode cX4_isWord 24 = .ok (.iconst 0, 1) := by decide +kernel
theorem dX4_isWord_25 : decode cX4_isWord 25 = .ok (.ireturn, 1) := by decide +kernel
theorem dX4_isWord_26 : decode cX4_isWord 26 = .ok (.iconst 0, 1) := by decide +kernel
theorem dX4_isWord_27 : decode cX4_isWord 27 = .ok (.istore_n 2, 1) := by decide +kernel
theorem dX4_isWord_28 : decode cX4_isWord 28 = .ok (.iload_n 2, 1) := by decide +kernel
theorem dX4_isWord_29 : decode cX4_isWord 29 = .ok (.aload_n 1, 1) := by decide +kernel
theorem dX4_isWord_30 : decode cX4_isWord 30 = .ok (.invokevirtual 89, 3) := by decide +kernel
theorem dX4_isWord_33 : decode cX4_isWord 33 = .ok (.if_icmp .ge 30, 3) := by decide +kernel
theorem dX4_isWord_36 : decode cX4_isWord 36 = .ok (.aload_n 0, 1) := by decide +kernel
theorem dX4_isWord_37 : decode cX4_isWord 37 = .ok (.getfield 24, 3) := by decide +kernel
theorem dX4_isWord_40 : decode cX4_isWord 40 = .ok (.aload_n 0, 1) := by decide +kernel
theorem dX4_isWord_41 : decode cX4_isWord 41 = .ok (.getfield 51, 3) := by decide +kernel
theorem dX4_isWord_44 : decode cX4_isWord 44 = .ok (.iload_n 2, 1) := by decide +kernel
theorem dX4_isWord_45 : decode cX4_isWord 45 = .ok (.iadd, 1) := by decide +kernel
theorem dX4_isWord_46 : decode cX4_isWord 46 = .ok (.baload, 1) := by decide +kernel
theorem dX4_isWord_47 : decode cX4_isWord 47 = .ok (.aload_n 1, 1) := by decide +kernel
theorem dX4_isWord_48 : decode cX4_isWord 48 = .ok (.iload_n 2, 1) := by decide +kernel
theorem dX4_isWord_49 : decode cX4_isWord 49 = .ok (.invokevirtual 94, 3) := by decide +kernel
theorem dX4_isWord_52 : decode cX4_isWord 52 = .ok (.if_icmp .eq 5, 3) := by decide +kernel
theorem dX4_isWord_55 : decode cX4_isWord 55 = .ok (.iconst 0, 1) := by decide +kernel
theorem dX4_isWord_56 : decode cX4_isWord 56 = .ok (.ireturn, 1) := by decide +kernel
theorem dX4_isWord_57 : decode cX4_isWord 57 = .ok (.iinc 2 1, 3) := by decide +kernel
theorem dX4_isWord_60 : decode cX4_isWord 60 = .ok (.goto (-32), 3) := by decide +kernel
theorem dX4_isWord_63 : decode cX4_isWord 63 = .ok (.iconst 1, 1) := by decide +kernel
theorem dX4_isWord_64 : decode cX4_isWord 64 = .ok (.ireturn, 1) := by decide +kernel
theorem dX4_open_0 : decode cX4_open 0 = .ok (.aload_n 0, 1) := by decide +kernel
theorem dX4_open_1 : decode cX4_open 1 = .ok (.aload_n 1, 1) := by decide +kernel
theorem dX4_open_2 : decode cX4_open 2 = .ok (.putfield 24, 3) := by decide +kernel
theorem dX4_open_5 : decode cX4_open 5 = .ok (.aload_n 0, 1) := by decide +kernel
theorem dX4_open_6 : decode cX4_open 6 = .ok (.iload_n 2, 1) := by decide +kernel
theorem dX4_open_7 : decode cX4_open 7 = .ok (.aload_n 1, 1) := by decide +kernel
theorem dX4_open_8 : decode cX4_open 8 = .ok (.arraylength, 1) := by decide +kernel
theorem dX4_open_9 : decode cX4_open 9 = .ok (.invokestatic 28, 3) := by decide +kernel
theorem dX4_open_12 : decode cX4_open 12 = .ok (.putfield 34, 3) := by decide +kernel
theorem dX4_open_15 : decode cX4_open 15 = .ok (.aload_n 0, 1) := by decide +kernel
theorem dX4_open_16 : decode cX4_open 16 = .ok (.iconst 0, 1) := by decide +kernel
theorem dX4_open_17 : decode cX4_open 17 = .ok (.putfield 38, 3) := by decide +kernel
theorem dX4_open_20 : decode cX4_open 20 = .ok (.aload_n 0, 1) := by decide +kernel
theorem dX4_open_21 : decode cX4_open 21 = .ok (.invokevirtual 41, 3) := by decide +kernel
theorem dX4_open_24 : decode cX4_open 24 = .ok (.return_, 1) := by decide +kernel
theorem dX4_readLine_0 : decode cX4_readLine 0 = .ok (.aload_n 0, 1) := by decide +kernel
theorem dX4_readLine_1 : decode cX4_readLine 1 = .ok (.invokevirtual 54, 3) := by decide +kernel
theorem dX4_readLine_4 : decode cX4_readLine 4 = .ok (.ifCond .ne 5, 3) := by decide +kernel
theorem dX4_readLine_7 : decode cX4_readLine 7 = .ok (.iconst 0, 1) := by decide +kernel
theorem dX4_readLine_8 : decode cX4_readLine 8 = .ok (.ireturn, 1) := by decide +kernel
theorem dX4_readLine_9 : decode cX4_readLine 9 = .ok (.iconst 0, 1) := by decide +kernel
theorem dX4_readLine_10 : decode cX4_readLine 10 = .ok (.istore_n 1, 1) := by decide +kernel
theorem dX4_readLine_11 : decode cX4_readLine 11 = .ok (.iload_n 1, 1) := by decide +kernel
theorem dX4_readLine_12 : decode cX4_readLine 12 = .ok (.aload_n 0, 1) := by decide +kernel
theorem dX4_readLine_13 : decode cX4_readLine 13 = .ok (.getfield 21, 3) := by decide +kernel
theorem dX4_readLine_16 : decode cX4_readLine 16 = .ok (.getfield 57, 3) := by decide +kernel
theorem dX4_readLine_19 : decode cX4_readLine 19 = .ok (.if_icmp .ge 38, 3) := by decide +kernel
theorem dX4_readLine_22 : decode cX4_readLine 22 = .ok (.iload_n 1, 1) := by decide +kernel
theorem dX4_readLine_23 : decode cX4_readLine 23 = .ok (.iconst 5, 1) := by decide +kernel
theorem dX4_readLine_24 : decode cX4_readLine 24 = .ok (.if_icmp .ge 33, 3) := by decide +kernel
theorem dX4_readLine_27 : decode cX4_readLine 27 = .ok (.aload_n 0, 1) := by decide +kernel
theorem dX4_readLine_28 : decode cX4_readLine 28 = .ok (.getfield 44, 3) := by decide +kernel
theorem dX4_readLine_31 : decode cX4_readLine 31 = .ok (.iconst 2, 1) := by decide +kernel
theorem dX4_readLine_32 : decode cX4_readLine 32 = .ok (.if_icmp .eq 5, 3) := by decide +kernel
theorem dX4_readLine_35 : decode cX4_readLine 35 = .ok (.iconst 0, 1) := by decide +kernel
theorem dX4_readLine_36 : decode cX4_readLine 36 = .ok (.ireturn, 1) := by decide +kernel
theorem dX4_readLine_37 : decode cX4_readLine 37 = .ok (.aload_n 0, 1) := by decide +kernel
theorem dX4_readLine_38 : decode cX4_readLine 38 = .ok (.getfield 9, 3) := by decide +kernel
theorem dX4_readLine_41 : decode cX4_readLine 41 = .ok (.iload_n 1, 1) := by decide +kernel
theorem dX4_readLine_42 : decode cX4_readLine 42 = .ok (.aload_n 0, 1) := by decide +kernel
theorem dX4_readLine_43 : decode cX4_readLine 43 = .ok (.getfield 59, 3) := by decide +kernel
theorem dX4_readLine_46 : decode cX4_readLine 46 = .ok (.iastore, 1) := by decide +kernel
theorem dX4_readLine_47 : decode cX4_readLine 47 = .ok (.aload_n 0, 1) := by decide +kernel
theorem dX4_readLine_48 : decode cX4_readLine 48 = .ok (.invokevirtual 41, 3) := by decide +kernel
theorem dX4_readLine_51 : decode cX4_readLine 51 = .ok (.iinc 1 1, 3) := by decide +kernel
theorem dX4_readLine_54 : decode cX4_readLine 54 = .ok (.goto (-43), 3) := by decide +kernel
theorem dX4_readLine_57 : decode cX4_readLine 57 = .ok (.aload_n 0, 1) := by decide +kernel
theorem dX4_readLine_58 : decode cX4_readLine 58 = .ok (.aload_n 0, 1) := by decide +kernel
theorem dX4_readLine_59 : decode cX4_readLine 59 = .ok (.getfield 21, 3) := by decide +kernel
theorem dX4_readLine_62 : decode cX4_readLine 62 = .ok (.getfield 62, 3) := by decide +kernel
theorem dX4_readLine_65 : decode cX4_readLine 65 = .ok (.ifCond .eq 16, 3) := by decide +kernel
theorem dX4_readLine_68 : decode cX4_readLine 68 = .ok (.aload_n 0, 1) := by decide +kernel
theorem dX4_readLine_69 : decode cX4_readLine 69 = .ok (.ldc 66, 2) := by decide +kernel
theorem dX4_readLine_71 : decode cX4_readLine 71 = .ok (.invokevirtual 68, 3) := by decide +kernel
theorem dX4_readLine_74 : decode cX4_readLine 74 = .ok (.ifCond .eq 7, 3) := by decide +kernel
theorem dX4_readLine_77 : decode cX4_readLine 77 = .ok (.iconst 1, 1) := by decide +kernel
theorem dX4_readLine_78 : decode cX4_readLine 78 = .ok (.goto 4, 3) := by decide +kernel
theorem dX4_readLine_81 : decode cX4_readLine 81 = .ok (.iconst 0, 1) := by decide +kernel
theorem dX4_readLine_82 : decode cX4_readLine 82 = .ok (.putfield 72, 3) := by decide +kernel
theorem dX4_readLine_85 : decode cX4_readLine 85 = .ok (.aload_n 0, 1) := by decide +kernel
theorem dX4_readLine_86 : decode cX4_readLine 86 = .ok (.getfield 72, 3) := by decide +kernel
theorem dX4_readLine_89 : decode cX4_readLine 89 = .ok (.ifCond .eq 7, 3) := by decide +kernel
theorem dX4_readLine_92 : decode cX4_readLine 92 = .ok (.aload_n 0, 1) := by decide +kernel
theorem dX4_readLine_93 : decode cX4_readLine 93 = .ok (.invokevirtual 41, 3) := by decide +kernel
theorem dX4_readLine_96 : decode cX4_readLine 96 = .ok (.aload_n 0, 1) := by decide +kernel
theorem dX4_readLine_97 : decode cX4_readLine 97 = .ok (.aload_n 0, 1) := by decide +kernel
theorem dX4_readLine_98 : decode cX4_readLine 98 = .ok (.getfield 21, 3) := by decide +kernel
theorem dX4_readLine_101 : decode cX4_readLine 101 = .ok (.getfield 74, 3) := by decide +kernel
theorem dX4_readLine_104 : decode cX4_readLine 104 = .ok (.ifCond .eq 16, 3) := by decide +kernel
theorem dX4_readLine_107 : decode cX4_readLine 107 = .ok (.aload_n 0, 1) := by decide +kernel
theorem dX4_readLine_108 : decode cX4_readLine 108 = .ok (.ldc 77, 2) := by decide +kernel
theorem dX4_readLine_110 : decode cX4_readLine 110 = .ok (.invokevirtual 68, 3) := by decide +kernel
theorem dX4_readLine_113 : decode cX4_readLine 113 = .ok (.ifCond .eq 7, 3) := by decide +kernel
theorem dX4_readLine_116 : decode cX4_readLine 116 = .ok (.iconst 1, 1) := by decide +kernel
theorem dX4_readLine_117 : decode cX4_readLine 117 = .ok (.goto 4, 3) := by decide +kernel
theorem dX4_readLine_120 : decode cX4_readLine 120 = .ok (.iconst 0, 1) := by decide +kernel
theorem dX4_readLine_121 : decode cX4_readLine 121 = .ok (.putfield 79, 3) := by decide +kernel
theorem dX4_readLine_124 : decode cX4_readLine 124 = .ok (.aload_n 0, 1) := by decide +kernel
theorem dX4_readLine_125 : decode cX4_readLine 125 = .ok (.getfield 79, 3) := by decide +kernel
theorem dX4_readLine_128 : decode cX4_readLine 128 = .ok (.ifCond .eq 7, 3) := by decide +kernel
theorem dX4_readLine_131 : decode cX4_readLine 131 = .ok (.aload_n 0, 1) := by decide +kernel
theorem dX4_readLine_132 : decode cX4_readLine 132 = .ok (.invokevirtual 41, 3) := by decide +kernel
theorem dX4_readLine_135 : decode cX4_readLine 135 = .ok (.aload_n 0, 1) := by decide +kernel
theorem dX4_readLine_136 : decode cX4_readLine 136 = .ok (.getfield 44, 3) := by decide +kernel
theorem dX4_readLine_139 : decode cX4_readLine 139 = .ok (.iconst 3, 1) := by decide +kernel
theorem dX4_readLine_140 : decode cX4_readLine 140 = .ok (.if_icmp .eq 5, 3) := by decide +kernel
theorem dX4_readLine_143 : decode cX4_readLine 143 = .ok (.iconst 0, 1) := by decide +kernel
theorem dX4_readLine_144 : decode cX4_readLine 144 = .ok (.ireturn, 1) := by decide +kernel
theorem dX4_readLine_145 : decode cX4_readLine 145 = .ok (.aload_n 0, 1) := by decide +kernel
theorem dX4_readLine_146 : decode cX4_readLine 146 = .ok (.invokevirtual 41, 3) := by decide +kernel
theorem dX4_readLine_149 : decode cX4_readLine 149 = .ok (.iconst 1, 1) := by decide +kernel
theorem dX4_readLine_150 : decode cX4_readLine 150 = .ok (.ireturn, 1) := by decide +kernel
theorem dX4_readVerb_0 : decode cX4_readVerb 0 = .ok (.iconst 0, 1) := by decide +kernel
theorem dX4_readVerb_1 : decode cX4_readVerb 1 = .ok (.istore_n 1, 1) := by decide +kernel
theorem dX4_readVerb_2 : decode cX4_readVerb 2 = .ok (.iload_n 1, 1) := by decide +kernel
theorem dX4_readVerb_3 : decode cX4_readVerb 3 = .ok (.getstatic 81, 3) := by decide +kernel
theorem dX4_readVerb_6 : decode cX4_readVerb 6 = .ok (.arraylength, 1) := by decide +kernel
theorem dX4_readVerb_7 : decode cX4_readVerb 7 = .ok (.if_icmp .ge 39, 3) := by decide +kernel
theorem dX4_readVerb_10 : decode cX4_readVerb 10 = .ok (.aload_n 0, 1) := by decide +kernel
theorem dX4_readVerb_11 : decode cX4_readVerb 11 = .ok (.getstatic 81, 3) := by decide +kernel
theorem dX4_readVerb_14 : decode cX4_readVerb 14 = .ok (.iload_n 1, 1) := by decide +kernel
theorem dX4_readVerb_15 : decode cX4_readVerb 15 = .ok (.aaload, 1) := by decide +kernel
theorem dX4_readVerb_16 : decode cX4_readVerb 16 = .ok (.getfield 85, 3) := by decide +kernel
theorem dX4_readVerb_19 : decode cX4_readVerb 19 = .ok (.invokevirtual 68, 3) := by decide +kernel
theorem dX4_readVerb_22 : decode cX4_readVerb 22 = .ok (.ifCond .eq 18, 3) := by decide +kernel
theorem dX4_readVerb_25 : decode cX4_readVerb 25 = .ok (.aload_n 0, 1) := by decide +kernel
theorem dX4_readVerb_26 : decode cX4_readVerb 26 = .ok (.getstatic 81, 3) := by decide +kernel
theorem dX4_readVerb_29 : decode cX4_readVerb 29 = .ok (.iload_n 1, 1) := by decide +kernel
theorem dX4_readVerb_30 : decode cX4_readVerb 30 = .ok (.aaload, 1) := by decide +kernel
theorem dX4_readVerb_31 : decode cX4_readVerb 31 = .ok (.putfield 21, 3) := by decide +kernel
theorem dX4_readVerb_34 : decode cX4_readVerb 34 = .ok (.aload_n 0, 1) := by decide +kernel
theorem dX4_readVerb_35 : decode cX4_readVerb 35 = .ok (.invokevirtual 41, 3) := by decide +kernel
theorem dX4_readVerb_38 : decode cX4_readVerb 38 = .ok (.iconst 1, 1) := by decide +kernel
theorem dX4_readVerb_39 : decode cX4_readVerb 39 = .ok (.ireturn, 1) := by decide +kernel
theorem dX4_readVerb_40 : decode cX4_readVerb 40 = .ok (.iinc 1 1, 3) := by decide +kernel
theorem dX4_readVerb_43 : decode cX4_readVerb 43 = .ok (.goto (-41), 3) := by decide +kernel
theorem dX4_readVerb_46 : decode cX4_readVerb 46 = .ok (.iconst 0, 1) := by decide +kernel
theorem dX4_readVerb_47 : decode cX4_readVerb 47 = .ok (.ireturn, 1) := by decide +kernel
