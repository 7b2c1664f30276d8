theorem dX9_text_0 : decode cX9_text 0 = .ok (.aload_n 0, 1) := by decide +kernel
theorem dX9_text_1 : decode cX9_text 1 = .ok (.getfield 12, 3) := by decide +kernel
theorem dX9_text_4 : decode cX9_text 4 = .ok (.getfield 45, 3) := by decide +kernel
theorem dX9_text_7 : decode cX9_text 7 = .ok (.istore_n 2, 1) := by decide +kernel
theorem dX9_text_8 : decode cX9_text 8 = .ok (.aload_n 0, 1) := by decide +kernel
theorem dX9_text_9 : decode cX9_text 9 = .ok (.getfield 12, 3) := by decide +kernel
theorem dX9_text_12 : decode cX9_text 12 = .ok (.iconst 0, 1) := by decide +kernel
theorem dX9_text_13 : decode cX9_text 13 = .ok (.putfield 45, 3) := by decide +kernel
theorem dX9_text_16 : decode cX9_text 16 = .ok (.iload_n 1, 1) := by decide +kernel
theorem dX9_text_17 : decode cX9_text 17 = .ok (.ifCond .eq 10, 3) := by decide +kernel
theorem dX9_text_20 : decode cX9_text 20 = .ok (.aload_n 0, 1) := by decide +kernel
theorem dX9_text_21 : decode cX9_text 21 = .ok (.getfield 12, 3) := by decide +kernel
theorem dX9_text_24 : decode cX9_text 24 = .ok (.invokevirtual 49, 3) := by decide +kernel
theorem dX9_text_27 : decode cX9_text 27 = .ok (.aload_n 0, 1) := by decide +kernel
theorem dX9_text_28 : decode cX9_text 28 = .ok (.getfield 23, 3) := by decide +kernel
theorem dX9_text_31 : decode cX9_text 31 = .ok (.aload_n 0, 1) := by decide +kernel
theorem dX9_text_32 : decode cX9_text 32 = .ok (.getfield 12, 3) := by decide +kernel
theorem dX9_text_35 : decode cX9_text 35 = .ok (.getfield 52, 3) := by decide +kernel
theorem dX9_text_38 : decode cX9_text 38 = .ok (.iload_n 2, 1) := by decide +kernel
theorem dX9_text_39 : decode cX9_text 39 = .ok (.invokevirtual 56, 3) := by decide +kernel
theorem dX9_text_42 : decode cX9_text 42 = .ok (.aload_n 0, 1) := by decide +kernel
theorem dX9_text_43 : decode cX9_text 43 = .ok (.getfield 12, 3) := by decide +kernel
theorem dX9_text_46 : decode cX9_text 46 = .ok (.aload_n 0, 1) := by decide +kernel
theorem dX9_text_47 : decode cX9_text 47 = .ok (.getfield 23, 3) := by decide +kernel
theorem dX9_text_50 : decode cX9_text 50 = .ok (.invokevirtual 60, 3) := by decide +kernel
theorem dX9_text_53 : decode cX9_text 53 = .ok (.putfield 64, 3) := by decide +kernel
theorem dX9_text_56 : decode cX9_text 56 = .ok (.aload_n 0, 1) := by decide +kernel
theorem dX9_text_57 : decode cX9_text 57 = .ok (.getfield 12, 3) := by decide +kernel
theorem dX9_text_60 : decode cX9_text 60 = .ok (.getfield 64, 3) := by decide +kernel
theorem dX9_text_63 : decode cX9_text 63 = .ok (.iconst (-1), 1) := by decide +kernel
theorem dX9_text_64 : decode cX9_text 64 = .ok (.if_icmp .eq 5, 3) := by decide +kernel
theorem dX9_text_67 : decode cX9_text 67 = .ok (.iconst (-1), 1) := by decide +kernel
theorem dX9_text_68 : decode cX9_text 68 = .ok (.ireturn, 1) := by decide +kernel
theorem dX9_text_69 : decode cX9_text 69 = .ok (.aload_n 0, 1) := by decide +kernel
theorem dX9_text_70 : decode cX9_text 70 = .ok (.getfield 23, 3) := by decide +kernel
theorem dX9_text_73 : decode cX9_text 73 = .ok (.aload_n 0, 1) := by decide +kernel
theorem dX9_text_74 : decode cX9_text 74 = .ok (.getfield 12, 3) := by decide +kernel
theorem dX9_text_77 : decode cX9_text 77 = .ok (.getfield 52, 3) := by decide +kernel
theorem dX9_text_80 : decode cX9_text 80 = .ok (.iload_n 2, 1) := by decide +kernel
theorem dX9_text_81 : decode cX9_text 81 = .ok (.invokevirtual 56, 3) := by decide +kernel
theorem dX9_text_84 : decode cX9_text 84 = .ok (.iconst 0, 1) := by decide +kernel
theorem dX9_text_85 : decode cX9_text 85 = .ok (.istore_n 3, 1) := by decide +kernel
theorem dX9_text_86 : decode cX9_text 86 = .ok (.iload_n 3, 1) := by decide +kernel
theorem dX9_text_87 : decode cX9_text 87 = .ok (.sipush 600, 3) := by decide +kernel
theorem dX9_text_90 : decode cX9_text 90 = .ok (.if_icmp .ge 43, 3) := by decide +kernel
theorem dX9_text_93 : decode cX9_text 93 = .ok (.aload_n 0, 1) := by decide +kernel
theorem dX9_text_94 : decode cX9_text 94 = .ok (.getfield 23, 3) := by decide +kernel
theorem dX9_text_97 : decode cX9_text 97 = .ok (.invokevirtual 66, 3) := by decide +kernel
theorem dX9_text_100 : decode cX9_text 100 = .ok (.ifCond .ne 33, 3) := by decide +kernel
theorem dX9_text_103 : decode cX9_text 103 = .ok (.aload_n 0, 1) := by decide +kernel
theorem dX9_text_104 : decode cX9_text 104 = .ok (.getfield 23, 3) := by decide +kernel
theorem dX9_text_107 : decode cX9_text 107 = .ok (.invokevirtual 70, 3) := by decide +kernel
theorem dX9_text_110 : decode cX9_text 110 = .ok (.ifCond .eq 23, 3) := by decide +kernel
theorem dX9_text_113 : decode cX9_text 113 = .ok (.aload_n 0, 1) := by decide +kernel
theorem dX9_text_114 : decode cX9_text 114 = .ok (.getfield 12, 3) := by decide +kernel
theorem dX9_text_117 : decode cX9_text 117 = .ok (.aload_n 0, 1) := by decide +kernel
theorem dX9_text_118 : decode cX9_text 118 = .ok (.invokevirtual 73, 3) := by decide +kernel
theorem dX9_text_121 : decode cX9_text 121 = .ok (.invokevirtual 76, 3) := by decide +kernel
theorem dX9_text_124 : decode cX9_text 124 = .ok (.ifCond .ne 9, 3) := by decide +kernel
theorem dX9_text_127 : decode cX9_text 127 = .ok (.iinc 3 1, 3) := by decide +kernel
theorem dX9_text_130 : decode cX9_text 130 = .ok (.goto (-44), 3) := by decide +kernel
theorem dX9_text_133 : decode cX9_text 133 = .ok (.iload_n 3, 1) := by decide +kernel
theorem dX9_text_134 : decode cX9_text 134 = .ok (.ireturn, 1) := by decide +kernel
