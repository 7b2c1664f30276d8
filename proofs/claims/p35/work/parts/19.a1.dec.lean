theorem dX9_until_9 : decode cX9_until 9 = .ok (.ifCond .eq 26, 3) := by decide +kernel
theorem dX9_until_12 : decode cX9_until 12 = .ok (.aload_n 0, 1) := by decide +kernel
theorem dX9_until_13 : decode cX9_until 13 = .ok (.getfield 12, 3) := by decide +kernel
theorem dX9_until_16 : decode cX9_until 16 = .ok (.getfield 166, 3) := by decide +kernel
theorem dX9_until_19 : decode cX9_until 19 = .ok (.iload_n 1, 1) := by decide +kernel
theorem dX9_until_20 : decode cX9_until 20 = .ok (.aaload, 1) := by decide +kernel
theorem dX9_until_21 : decode cX9_until 21 = .ok (.iload_n 2, 1) := by decide +kernel
theorem dX9_until_22 : decode cX9_until 22 = .ok (.aload_n 0, 1) := by decide +kernel
theorem dX9_until_23 : decode cX9_until 23 = .ok (.getfield 12, 3) := by decide +kernel
theorem dX9_until_26 : decode cX9_until 26 = .ok (.getfield 137, 3) := by decide +kernel
theorem dX9_until_29 : decode cX9_until 29 = .ok (.invokevirtual 337, 3) := by decide +kernel
theorem dX9_until_32 : decode cX9_until 32 = .ok (.goto 4, 3) := by decide +kernel
theorem dX9_until_35 : decode cX9_until 35 = .ok (.iconst (-1), 1) := by decide +kernel
theorem dX9_until_36 : decode cX9_until 36 = .ok (.ireturn, 1) := by decide +kernel
theorem dX9_why_0 : decode cX9_why 0 = .ok (.aload_n 0, 1) := by decide +kernel
theorem dX9_why_1 : decode cX9_why 1 = .ok (.getfield 12, 3) := by decide +kernel
theorem dX9_why_4 : decode cX9_why 4 = .ok (.iload_n 1, 1) := by decide +kernel
theorem dX9_why_5 : decode cX9_why 5 = .ok (.iload_n 2, 1) := by decide +kernel
theorem dX9_why_6 : decode cX9_why 6 = .ok (.invokevirtual 278, 3) := by decide +kernel
theorem dX9_why_9 : decode cX9_why 9 = .ok (.ifCond .eq 23, 3) := by decide +kernel
theorem dX9_why_12 : decode cX9_why 12 = .ok (.iload_n 3, 1) := by decide +kernel
theorem dX9_why_13 : decode cX9_why 13 = .ok (.ifCond .lt 19, 3) := by decide +kernel
theorem dX9_why_16 : decode cX9_why 16 = .ok (.iload_n 3, 1) := by decide +kernel
theorem dX9_why_17 : decode cX9_why 17 = .ok (.iconst 3, 1) := by decide +kernel
theorem dX9_why_18 : decode cX9_why 18 = .ok (.if_icmp .ge 14, 3) := by decide +kernel
theorem dX9_why_21 : decode cX9_why 21 = .ok (.iload 4, 2) := by decide +kernel
theorem dX9_why_23 : decode cX9_why 23 = .ok (.ifCond .lt 9, 3) := by decide +kernel
theorem dX9_why_26 : decode cX9_why 26 = .ok (.iload 4, 2) := by decide +kernel
theorem dX9_why_28 : decode cX9_why 28 = .ok (.iconst 1, 1) := by decide +kernel
theorem dX9_why_29 : decode cX9_why 29 = .ok (.if_icmp .le 6, 3) := by decide +kernel
theorem dX9_why_32 : decode cX9_why 32 = .ok (.bipush (-2), 2) := by decide +kernel
theorem dX9_why_34 : decode cX9_why 34 = .ok (.ireturn, 1) := by decide +kernel
theorem dX9_why_35 : decode cX9_why 35 = .ok (.aload_n 0, 1) := by decide +kernel
theorem dX9_why_36 : decode cX9_why 36 = .ok (.getfield 12, 3) := by decide +kernel
theorem dX9_why_39 : decode cX9_why 39 = .ok (.getfield 166, 3) := by decide +kernel
theorem dX9_why_42 : decode cX9_why 42 = .ok (.iload_n 1, 1) := by decide +kernel
theorem dX9_why_43 : decode cX9_why 43 = .ok (.aaload, 1) := by decide +kernel
theorem dX9_why_44 : decode cX9_why 44 = .ok (.astore 5, 2) := by decide +kernel
theorem dX9_why_46 : decode cX9_why 46 = .ok (.aload 5, 2) := by decide +kernel
theorem dX9_why_48 : decode cX9_why 48 = .ok (.iload_n 2, 1) := by decide +kernel
theorem dX9_why_49 : decode cX9_why 49 = .ok (.aload_n 0, 1) := by decide +kernel
theorem dX9_why_50 : decode cX9_why 50 = .ok (.getfield 12, 3) := by decide +kernel
theorem dX9_why_53 : decode cX9_why 53 = .ok (.getfield 134, 3) := by decide +kernel
theorem dX9_why_56 : decode cX9_why 56 = .ok (.invokevirtual 297, 3) := by decide +kernel
theorem dX9_why_59 : decode cX9_why 59 = .ok (.istore 6, 2) := by decide +kernel
theorem dX9_why_61 : decode cX9_why 61 = .ok (.iload_n 3, 1) := by decide +kernel
theorem dX9_why_62 : decode cX9_why 62 = .ok (.ifCond .le 27, 3) := by decide +kernel
theorem dX9_why_65 : decode cX9_why 65 = .ok (.aload 5, 2) := by decide +kernel
theorem dX9_why_67 : decode cX9_why 67 = .ok (.iload_n 2, 1) := by decide +kernel
theorem dX9_why_68 : decode cX9_why 68 = .ok (.iload 6, 2) := by decide +kernel
theorem dX9_why_70 : decode cX9_why 70 = .ok (.aload_n 0, 1) := by decide +kernel
theorem dX9_why_71 : decode cX9_why 71 = .ok (.getfield 12, 3) := by decide +kernel
theorem dX9_why_74 : decode cX9_why 74 = .ok (.getfield 134, 3) := by decide +kernel
theorem dX9_why_77 : decode cX9_why 77 = .ok (.aload_n 0, 1) := by decide +kernel
theorem dX9_why_78 : decode cX9_why 78 = .ok (.getfield 12, 3) := by decide +kernel
theorem dX9_why_81 : decode cX9_why 81 = .ok (.getfield 137, 3) := by decide +kernel
theorem dX9_why_84 : decode cX9_why 84 = .ok (.invokevirtual 300, 3) := by decide +kernel
theorem dX9_why_87 : decode cX9_why 87 = .ok (.istore 6, 2) := by decide +kernel
theorem dX9_why_89 : decode cX9_why 89 = .ok (.iload_n 3, 1) := by decide +kernel
theorem dX9_why_90 : decode cX9_why 90 = .ok (.iconst 1, 1) := by decide +kernel
theorem dX9_why_91 : decode cX9_why 91 = .ok (.if_icmp .le 24, 3) := by decide +kernel
theorem dX9_why_94 : decode cX9_why 94 = .ok (.iload 6, 2) := by decide +kernel
theorem dX9_why_96 : decode cX9_why 96 = .ok (.bipush 11, 2) := by decide +kernel
theorem dX9_why_98 : decode cX9_why 98 = .ok (.if_icmp .ne 14, 3) := by decide +kernel
theorem dX9_why_101 : decode cX9_why 101 = .ok (.aload 5, 2) := by decide +kernel
theorem dX9_why_103 : decode cX9_why 103 = .ok (.getfield 209, 3) := by decide +kernel
theorem dX9_why_106 : decode cX9_why 106 = .ok (.getfield 304, 3) := by decide +kernel
theorem dX9_why_109 : decode cX9_why 109 = .ok (.goto 4, 3) := by decide +kernel
theorem dX9_why_112 : decode cX9_why 112 = .ok (.iconst 0, 1) := by decide +kernel
theorem dX9_why_113 : decode cX9_why 113 = .ok (.istore 6, 2) := by decide +kernel
theorem dX9_why_115 : decode cX9_why 115 = .ok (.iload 4, 2) := by decide +kernel
theorem dX9_why_117 : decode cX9_why 117 = .ok (.ifCond .eq 8, 3) := by decide +kernel
theorem dX9_why_120 : decode cX9_why 120 = .ok (.iload 6, 2) := by decide +kernel
theorem dX9_why_122 : decode cX9_why 122 = .ok (.ifCond .ne 8, 3) := by decide +kernel
theorem dX9_why_125 : decode cX9_why 125 = .ok (.iload 6, 2) := by decide +kernel
theorem dX9_why_127 : decode cX9_why 127 = .ok (.goto 11, 3) := by decide +kernel
theorem dX9_why_130 : decode cX9_why 130 = .ok (.aload 5, 2) := by decide +kernel
theorem dX9_why_132 : decode cX9_why 132 = .ok (.iload_n 2, 1) := by decide +kernel
theorem dX9_why_133 : decode cX9_why 133 = .ok (.iload 6, 2) := by decide +kernel
theorem dX9_why_135 : decode cX9_why 135 = .ok (.invokevirtual 307, 3) := by decide +kernel
theorem dX9_why_138 : decode cX9_why 138 = .ok (.ireturn, 1) := by decide +kernel
theorem dX9_worth_0 : decode cX9_worth 0 = .ok (.iload_n 1, 1) := by decide +kernel
theorem dX9_worth_1 : decode cX9_worth 1 = .ok (.invokestatic 155, 3) := by decide +kernel
theorem dX9_worth_4 : decode cX9_worth 4 = .ok (.ifCond .ne 5, 3) := by decide +kernel
theorem dX9_worth_7 : decode cX9_worth 7 = .ok (.iconst (-1), 1) := by decide +kernel
theorem dX9_worth_8 : decode cX9_worth 8 = .ok (.ireturn, 1) := by decide +kernel
theorem dX9_worth_9 : decode cX9_worth 9 = .ok (.iconst 0, 1) := by decide +kernel
theorem dX9_worth_10 : decode cX9_worth 10 = .ok (.istore_n 2, 1) := by decide +kernel
theorem dX9_worth_11 : decode cX9_worth 11 = .ok (.iconst 0, 1) := by decide +kernel
theorem dX9_worth_12 : decode cX9_worth 12 = .ok (.istore_n 3, 1) := by decide +kernel
theorem dX9_worth_13 : decode cX9_worth 13 = .ok (.iload_n 3, 1) := by decide +kernel
theorem dX9_worth_14 : decode cX9_worth 14 = .ok (.aload_n 0, 1) := by decide +kernel
theorem dX9_worth_15 : decode cX9_worth 15 = .ok (.getfield 12, 3) := by decide +kernel
theorem dX9_worth_18 : decode cX9_worth 18 = .ok (.getfield 97, 3) := by decide +kernel
theorem dX9_worth_21 : decode cX9_worth 21 = .ok (.if_icmp .ge 60, 3) := by decide +kernel
theorem dX9_worth_24 : decode cX9_worth 24 = .ok (.aload_n 0, 1) := by decide +kernel
theorem dX9_worth_25 : decode cX9_worth 25 = .ok (.getfield 12, 3) := by decide +kernel
theorem dX9_worth_28 : decode cX9_worth 28 = .ok (.getfield 166, 3) := by decide +kernel
theorem dX9_worth_31 : decode cX9_worth 31 = .ok (.iload_n 3, 1) := by decide +kernel
theorem dX9_worth_32 : decode cX9_worth 32 = .ok (.aaload, 1) := by decide +kernel
theorem dX9_worth_33 : decode cX9_worth 33 = .ok (.astore 4, 2) := by decide +kernel
theorem dX9_worth_35 : decode cX9_worth 35 = .ok (.aload 4, 2) := by decide +kernel
theorem dX9_worth_37 : decode cX9_worth 37 = .ok (.getfield 197, 3) := by decide +kernel
theorem dX9_worth_40 : decode cX9_worth 40 = .ok (.iload_n 1, 1) := by decide +kernel
theorem dX9_worth_41 : decode cX9_worth 41 = .ok (.if_icmp .ne 34, 3) := by decide +kernel
theorem dX9_worth_44 : decode cX9_worth 44 = .ok (.aload 4, 2) := by decide +kernel
theorem dX9_worth_46 : decode cX9_worth 46 = .ok (.aload_n 0, 1) := by decide +kernel
theorem dX9_worth_47 : decode cX9_worth 47 = .ok (.getfield 12, 3) := by decide +kernel
theorem dX9_worth_50 : decode cX9_worth 50 = .ok (.getfield 159, 3) := by decide +kernel
theorem dX9_worth_53 : decode cX9_worth 53 = .ok (.aload_n 0, 1) := by decide +kernel
theorem dX9_worth_54 : decode cX9_worth 54 = .ok (.getfield 12, 3) := by decide +kernel
theorem dX9_worth_57 : decode cX9_worth 57 = .ok (.getfield 134, 3) := by decide +kernel
theorem dX9_worth_60 : decode cX9_worth 60 = .ok (.invokevirtual 333, 3) := by decide +kernel
theorem dX9_worth_63 : decode cX9_worth 63 = .ok (.iconst (-1), 1) := by decide +kernel
theorem dX9_worth_64 : decode cX9_worth 64 = .ok (.if_icmp .eq 11, 3) := by decide +kernel
theorem dX9_worth_67 : decode cX9_worth 67 = .ok (.iload_n 2, 1) := by decide +kernel
theorem dX9_worth_68 : decode cX9_worth 68 = .ok (.aload 4, 2) := by decide +kernel
theorem dX9_worth_70 : decode cX9_worth 70 = .ok (.getfield 181, 3) := by decide +kernel
theorem dX9_worth_73 : decode cX9_worth 73 = .ok (.iadd, 1) := by decide +kernel
theorem dX9_worth_74 : decode cX9_worth 74 = .ok (.istore_n 2, 1) := by decide +kernel
theorem dX9_worth_75 : decode cX9_worth 75 = .ok (.iinc 3 1, 3) := by decide +kernel
theorem dX9_worth_78 : decode cX9_worth 78 = .ok (.goto (-65), 3) := by decide +kernel
theorem dX9_worth_81 : decode cX9_worth 81 = .ok (.iload_n 2, 1) := by decide +kernel
theorem dX9_worth_82 : decode cX9_worth 82 = .ok (.ireturn, 1) := by decide +kernel
