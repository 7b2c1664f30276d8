theorem dX10_reachOf_0 : decode cX10_reachOf 0 = .ok (.aload_n 0, 1) := by decide +kernel
theorem dX10_reachOf_1 : decode cX10_reachOf 1 = .ok (.getfield 7, 3) := by decide +kernel
theorem dX10_reachOf_4 : decode cX10_reachOf 4 = .ok (.iload_n 2, 1) := by decide +kernel
theorem dX10_reachOf_5 : decode cX10_reachOf 5 = .ok (.bipush 9, 2) := by decide +kernel
theorem dX10_reachOf_7 : decode cX10_reachOf 7 = .ok (.iadd, 1) := by decide +kernel
theorem dX10_reachOf_8 : decode cX10_reachOf 8 = .ok (.iaload, 1) := by decide +kernel
theorem dX10_reachOf_9 : decode cX10_reachOf 9 = .ok (.iconst (-1), 1) := by decide +kernel
theorem dX10_reachOf_10 : decode cX10_reachOf 10 = .ok (.if_icmp .ne 5, 3) := by decide +kernel
theorem dX10_reachOf_13 : decode cX10_reachOf 13 = .ok (.iconst 0, 1) := by decide +kernel
theorem dX10_reachOf_14 : decode cX10_reachOf 14 = .ok (.ireturn, 1) := by decide +kernel
theorem dX10_reachOf_15 : decode cX10_reachOf 15 = .ok (.iconst 0, 1) := by decide +kernel
theorem dX10_reachOf_16 : decode cX10_reachOf 16 = .ok (.istore_n 3, 1) := by decide +kernel
theorem dX10_reachOf_17 : decode cX10_reachOf 17 = .ok (.aload_n 0, 1) := by decide +kernel
theorem dX10_reachOf_18 : decode cX10_reachOf 18 = .ok (.iload_n 2, 1) := by decide +kernel
theorem dX10_reachOf_19 : decode cX10_reachOf 19 = .ok (.invokevirtual 70, 3) := by decide +kernel
theorem dX10_reachOf_22 : decode cX10_reachOf 22 = .ok (.ifCond .eq 28, 3) := by decide +kernel
theorem dX10_reachOf_25 : decode cX10_reachOf 25 = .ok (.aload_n 0, 1) := by decide +kernel
theorem dX10_reachOf_26 : decode cX10_reachOf 26 = .ok (.iload_n 1, 1) := by decide +kernel
theorem dX10_reachOf_27 : decode cX10_reachOf 27 = .ok (.aload_n 0, 1) := by decide +kernel
theorem dX10_reachOf_28 : decode cX10_reachOf 28 = .ok (.getfield 7, 3) := by decide +kernel
theorem dX10_reachOf_31 : decode cX10_reachOf 31 = .ok (.iload_n 2, 1) := by decide +kernel
theorem dX10_reachOf_32 : decode cX10_reachOf 32 = .ok (.bipush 9, 2) := by decide +kernel
theorem dX10_reachOf_34 : decode cX10_reachOf 34 = .ok (.iadd, 1) := by decide +kernel
theorem dX10_reachOf_35 : decode cX10_reachOf 35 = .ok (.iaload, 1) := by decide +kernel
theorem dX10_reachOf_36 : decode cX10_reachOf 36 = .ok (.invokevirtual 74, 3) := by decide +kernel
theorem dX10_reachOf_39 : decode cX10_reachOf 39 = .ok (.ifCond .eq 11, 3) := by decide +kernel
theorem dX10_reachOf_42 : decode cX10_reachOf 42 = .ok (.aload_n 0, 1) := by decide +kernel
theorem dX10_reachOf_43 : decode cX10_reachOf 43 = .ok (.iload_n 2, 1) := by decide +kernel
theorem dX10_reachOf_44 : decode cX10_reachOf 44 = .ok (.invokevirtual 77, 3) := by decide +kernel
theorem dX10_reachOf_47 : decode cX10_reachOf 47 = .ok (.goto 4, 3) := by decide +kernel
theorem dX10_reachOf_50 : decode cX10_reachOf 50 = .ok (.iconst 0, 1) := by decide +kernel
theorem dX10_reachOf_51 : decode cX10_reachOf 51 = .ok (.istore 4, 2) := by decide +kernel
theorem dX10_reachOf_53 : decode cX10_reachOf 53 = .ok (.iconst 1, 1) := by decide +kernel
theorem dX10_reachOf_54 : decode cX10_reachOf 54 = .ok (.aload_n 0, 1) := by decide +kernel
theorem dX10_reachOf_55 : decode cX10_reachOf 55 = .ok (.getfield 7, 3) := by decide +kernel
theorem dX10_reachOf_58 : decode cX10_reachOf 58 = .ok (.iload_n 2, 1) := by decide +kernel
theorem dX10_reachOf_59 : decode cX10_reachOf 59 = .ok (.bipush 8, 2) := by decide +kernel
theorem dX10_reachOf_61 : decode cX10_reachOf 61 = .ok (.iadd, 1) := by decide +kernel
theorem dX10_reachOf_62 : decode cX10_reachOf 62 = .ok (.iaload, 1) := by decide +kernel
theorem dX10_reachOf_63 : decode cX10_reachOf 63 = .ok (.iadd, 1) := by decide +kernel
theorem dX10_reachOf_64 : decode cX10_reachOf 64 = .ok (.istore 5, 2) := by decide +kernel
theorem dX10_reachOf_66 : decode cX10_reachOf 66 = .ok (.iload 5, 2) := by decide +kernel
theorem dX10_reachOf_68 : decode cX10_reachOf 68 = .ok (.ifCond .le 119, 3) := by decide +kernel
theorem dX10_reachOf_71 : decode cX10_reachOf 71 = .ok (.aload_n 0, 1) := by decide +kernel
theorem dX10_reachOf_72 : decode cX10_reachOf 72 = .ok (.getfield 7, 3) := by decide +kernel
theorem dX10_reachOf_75 : decode cX10_reachOf 75 = .ok (.iload_n 2, 1) := by decide +kernel
theorem dX10_reachOf_76 : decode cX10_reachOf 76 = .ok (.iload 5, 2) := by decide +kernel
theorem dX10_reachOf_78 : decode cX10_reachOf 78 = .ok (.invokestatic 56, 3) := by decide +kernel
theorem dX10_reachOf_81 : decode cX10_reachOf 81 = .ok (.iconst 0, 1) := by decide +kernel
theorem dX10_reachOf_82 : decode cX10_reachOf 82 = .ok (.iadd, 1) := by decide +kernel
theorem dX10_reachOf_83 : decode cX10_reachOf 83 = .ok (.iaload, 1) := by decide +kernel
theorem dX10_reachOf_84 : decode cX10_reachOf 84 = .ok (.istore 6, 2) := by decide +kernel
theorem dX10_reachOf_86 : decode cX10_reachOf 86 = .ok (.iload 5, 2) := by decide +kernel
theorem dX10_reachOf_88 : decode cX10_reachOf 88 = .ok (.iload 4, 2) := by decide +kernel
theorem dX10_reachOf_90 : decode cX10_reachOf 90 = .ok (.if_icmp .ge 23, 3) := by decide +kernel
theorem dX10_reachOf_93 : decode cX10_reachOf 93 = .ok (.aload_n 0, 1) := by decide +kernel
theorem dX10_reachOf_94 : decode cX10_reachOf 94 = .ok (.iload_n 2, 1) := by decide +kernel
theorem dX10_reachOf_95 : decode cX10_reachOf 95 = .ok (.iload 5, 2) := by decide +kernel
theorem dX10_reachOf_97 : decode cX10_reachOf 97 = .ok (.invokevirtual 66, 3) := by decide +kernel
theorem dX10_reachOf_100 : decode cX10_reachOf 100 = .ok (.ifCond .eq 13, 3) := by decide +kernel
theorem dX10_reachOf_103 : decode cX10_reachOf 103 = .ok (.iload 6, 2) := by decide +kernel
theorem dX10_reachOf_105 : decode cX10_reachOf 105 = .ok (.iconst (-1), 1) := by decide +kernel
theorem dX10_reachOf_106 : decode cX10_reachOf 106 = .ok (.if_icmp .ne 7, 3) := by decide +kernel
theorem dX10_reachOf_109 : decode cX10_reachOf 109 = .ok (.iconst 1, 1) := by decide +kernel
theorem dX10_reachOf_110 : decode cX10_reachOf 110 = .ok (.goto 4, 3) := by decide +kernel
theorem dX10_reachOf_113 : decode cX10_reachOf 113 = .ok (.iconst 0, 1) := by decide +kernel
theorem dX10_reachOf_114 : decode cX10_reachOf 114 = .ok (.istore 7, 2) := by decide +kernel
theorem dX10_reachOf_116 : decode cX10_reachOf 116 = .ok (.iload_n 3, 1) := by decide +kernel
theorem dX10_reachOf_117 : decode cX10_reachOf 117 = .ok (.iload 7, 2) := by decide +kernel
theorem dX10_reachOf_119 : decode cX10_reachOf 119 = .ok (.ifCond .eq 10, 3) := by decide +kernel
theorem dX10_reachOf_122 : decode cX10_reachOf 122 = .ok (.iconst 1, 1) := by decide +kernel
theorem dX10_reachOf_123 : decode cX10_reachOf 123 = .ok (.iload 5, 2) := by decide +kernel
theorem dX10_reachOf_125 : decode cX10_reachOf 125 = .ok (.ishl, 1) := by decide +kernel
theorem dX10_reachOf_126 : decode cX10_reachOf 126 = .ok (.goto 4, 3) := by decide +kernel
theorem dX10_reachOf_129 : decode cX10_reachOf 129 = .ok (.iconst 0, 1) := by decide +kernel
theorem dX10_reachOf_130 : decode cX10_reachOf 130 = .ok (.ior, 1) := by decide +kernel
theorem dX10_reachOf_131 : decode cX10_reachOf 131 = .ok (.istore_n 3, 1) := by decide +kernel
theorem dX10_reachOf_132 : decode cX10_reachOf 132 = .ok (.iload 7, 2) := by decide +kernel
theorem dX10_reachOf_134 : decode cX10_reachOf 134 = .ok (.ifCond .ne 19, 3) := by decide +kernel
theorem dX10_reachOf_137 : decode cX10_reachOf 137 = .ok (.iload 6, 2) := by decide +kernel
theorem dX10_reachOf_139 : decode cX10_reachOf 139 = .ok (.iconst (-1), 1) := by decide +kernel
theorem dX10_reachOf_140 : decode cX10_reachOf 140 = .ok (.if_icmp .eq 17, 3) := by decide +kernel
theorem dX10_reachOf_143 : decode cX10_reachOf 143 = .ok (.aload_n 0, 1) := by decide +kernel
theorem dX10_reachOf_144 : decode cX10_reachOf 144 = .ok (.iload_n 1, 1) := by decide +kernel
theorem dX10_reachOf_145 : decode cX10_reachOf 145 = .ok (.iload 6, 2) := by decide +kernel
theorem dX10_reachOf_147 : decode cX10_reachOf 147 = .ok (.invokevirtual 74, 3) := by decide +kernel
theorem dX10_reachOf_150 : decode cX10_reachOf 150 = .ok (.ifCond .eq 7, 3) := by decide +kernel
theorem dX10_reachOf_153 : decode cX10_reachOf 153 = .ok (.iconst 1, 1) := by decide +kernel
theorem dX10_reachOf_154 : decode cX10_reachOf 154 = .ok (.goto 4, 3) := by decide +kernel
theorem dX10_reachOf_157 : decode cX10_reachOf 157 = .ok (.iconst 0, 1) := by decide +kernel
theorem dX10_reachOf_158 : decode cX10_reachOf 158 = .ok (.istore 8, 2) := by decide +kernel
theorem dX10_reachOf_160 : decode cX10_reachOf 160 = .ok (.iload 8, 2) := by decide +kernel
theorem dX10_reachOf_162 : decode cX10_reachOf 162 = .ok (.ifCond .eq 15, 3) := by decide +kernel
theorem dX10_reachOf_165 : decode cX10_reachOf 165 = .ok (.iload 5, 2) := by decide +kernel
theorem dX10_reachOf_167 : decode cX10_reachOf 167 = .ok (.iload 4, 2) := by decide +kernel
theorem dX10_reachOf_169 : decode cX10_reachOf 169 = .ok (.if_icmp .le 8, 3) := by decide +kernel
theorem dX10_reachOf_172 : decode cX10_reachOf 172 = .ok (.iload 5, 2) := by decide +kernel
theorem dX10_reachOf_174 : decode cX10_reachOf 174 = .ok (.goto 5, 3) := by decide +kernel
theorem dX10_reachOf_177 : decode cX10_reachOf 177 = .ok (.iload 4, 2) := by decide +kernel
theorem dX10_reachOf_179 : decode cX10_reachOf 179 = .ok (.istore 4, 2) := by decide +kernel
theorem dX10_reachOf_181 : decode cX10_reachOf 181 = .ok (.iinc 5 (-1), 3) := by decide +kernel
theorem dX10_reachOf_184 : decode cX10_reachOf 184 = .ok (.goto (-118), 3) := by decide +kernel
theorem dX10_reachOf_187 : decode cX10_reachOf 187 = .ok (.iload_n 3, 1) := by decide +kernel
theorem dX10_reachOf_188 : decode cX10_reachOf 188 = .ok (.ireturn, 1) := by decide +kernel
