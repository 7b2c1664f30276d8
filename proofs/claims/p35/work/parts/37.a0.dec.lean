theorem dX10_accepts_0 : decode cX10_accepts 0 = .ok (.aload_n 0, 1) := by decide +kernel
theorem dX10_accepts_1 : decode cX10_accepts 1 = .ok (.iload_n 1, 1) := by decide +kernel
theorem dX10_accepts_2 : decode cX10_accepts 2 = .ok (.invokevirtual 116, 3) := by decide +kernel
theorem dX10_accepts_5 : decode cX10_accepts 5 = .ok (.ifCond .ne 6, 3) := by decide +kernel
theorem dX10_accepts_8 : decode cX10_accepts 8 = .ok (.bipush 30, 2) := by decide +kernel
theorem dX10_accepts_10 : decode cX10_accepts 10 = .ok (.ireturn, 1) := by decide +kernel
theorem dX10_accepts_11 : decode cX10_accepts 11 = .ok (.iconst 0, 1) := by decide +kernel
theorem dX10_accepts_12 : decode cX10_accepts 12 = .ok (.iload_n 1, 1) := by decide +kernel
theorem dX10_accepts_13 : decode cX10_accepts 13 = .ok (.invokestatic 109, 3) := by decide +kernel
theorem dX10_accepts_16 : decode cX10_accepts 16 = .ok (.istore_n 2, 1) := by decide +kernel
theorem dX10_accepts_17 : decode cX10_accepts 17 = .ok (.aload_n 0, 1) := by decide +kernel
theorem dX10_accepts_18 : decode cX10_accepts 18 = .ok (.getfield 7, 3) := by decide +kernel
theorem dX10_accepts_21 : decode cX10_accepts 21 = .ok (.iload_n 2, 1) := by decide +kernel
theorem dX10_accepts_22 : decode cX10_accepts 22 = .ok (.bipush 6, 2) := by decide +kernel
theorem dX10_accepts_24 : decode cX10_accepts 24 = .ok (.iadd, 1) := by decide +kernel
theorem dX10_accepts_25 : decode cX10_accepts 25 = .ok (.iaload, 1) := by decide +kernel
theorem dX10_accepts_26 : decode cX10_accepts 26 = .ok (.iconst 1, 1) := by decide +kernel
theorem dX10_accepts_27 : decode cX10_accepts 27 = .ok (.if_icmp .eq 29, 3) := by decide +kernel
theorem dX10_accepts_30 : decode cX10_accepts 30 = .ok (.aload_n 0, 1) := by decide +kernel
theorem dX10_accepts_31 : decode cX10_accepts 31 = .ok (.getfield 7, 3) := by decide +kernel
theorem dX10_accepts_34 : decode cX10_accepts 34 = .ok (.iload_n 2, 1) := by decide +kernel
theorem dX10_accepts_35 : decode cX10_accepts 35 = .ok (.bipush 9, 2) := by decide +kernel
theorem dX10_accepts_37 : decode cX10_accepts 37 = .ok (.iadd, 1) := by decide +kernel
theorem dX10_accepts_38 : decode cX10_accepts 38 = .ok (.iaload, 1) := by decide +kernel
theorem dX10_accepts_39 : decode cX10_accepts 39 = .ok (.iconst (-1), 1) := by decide +kernel
theorem dX10_accepts_40 : decode cX10_accepts 40 = .ok (.if_icmp .ne 16, 3) := by decide +kernel
theorem dX10_accepts_43 : decode cX10_accepts 43 = .ok (.aload_n 0, 1) := by decide +kernel
theorem dX10_accepts_44 : decode cX10_accepts 44 = .ok (.getfield 7, 3) := by decide +kernel
theorem dX10_accepts_47 : decode cX10_accepts 47 = .ok (.iload_n 2, 1) := by decide +kernel
theorem dX10_accepts_48 : decode cX10_accepts 48 = .ok (.bipush 10, 2) := by decide +kernel
theorem dX10_accepts_50 : decode cX10_accepts 50 = .ok (.iadd, 1) := by decide +kernel
theorem dX10_accepts_51 : decode cX10_accepts 51 = .ok (.iaload, 1) := by decide +kernel
theorem dX10_accepts_52 : decode cX10_accepts 52 = .ok (.iconst 1, 1) := by decide +kernel
theorem dX10_accepts_53 : decode cX10_accepts 53 = .ok (.if_icmp .ne 6, 3) := by decide +kernel
theorem dX10_accepts_56 : decode cX10_accepts 56 = .ok (.bipush 31, 2) := by decide +kernel
theorem dX10_accepts_58 : decode cX10_accepts 58 = .ok (.ireturn, 1) := by decide +kernel
theorem dX10_accepts_59 : decode cX10_accepts 59 = .ok (.aload_n 0, 1) := by decide +kernel
theorem dX10_accepts_60 : decode cX10_accepts 60 = .ok (.getfield 7, 3) := by decide +kernel
theorem dX10_accepts_63 : decode cX10_accepts 63 = .ok (.iload_n 2, 1) := by decide +kernel
theorem dX10_accepts_64 : decode cX10_accepts 64 = .ok (.bipush 6, 2) := by decide +kernel
theorem dX10_accepts_66 : decode cX10_accepts 66 = .ok (.iadd, 1) := by decide +kernel
theorem dX10_accepts_67 : decode cX10_accepts 67 = .ok (.iconst 1, 1) := by decide +kernel
theorem dX10_accepts_68 : decode cX10_accepts 68 = .ok (.iastore, 1) := by decide +kernel
theorem dX10_accepts_69 : decode cX10_accepts 69 = .ok (.iconst 0, 1) := by decide +kernel
theorem dX10_accepts_70 : decode cX10_accepts 70 = .ok (.ireturn, 1) := by decide +kernel
theorem dX10_days_0 : decode cX10_days 0 = .ok (.iload_n 1, 1) := by decide +kernel
theorem dX10_days_1 : decode cX10_days 1 = .ok (.iconst 1, 1) := by decide +kernel
theorem dX10_days_2 : decode cX10_days 2 = .ok (.bipush 99, 2) := by decide +kernel
theorem dX10_days_4 : decode cX10_days 4 = .ok (.invokestatic 33, 3) := by decide +kernel
theorem dX10_days_7 : decode cX10_days 7 = .ok (.ifCond .eq 17, 3) := by decide +kernel
theorem dX10_days_10 : decode cX10_days 10 = .ok (.aload_n 0, 1) := by decide +kernel
theorem dX10_days_11 : decode cX10_days 11 = .ok (.getfield 7, 3) := by decide +kernel
theorem dX10_days_14 : decode cX10_days 14 = .ok (.iconst 0, 1) := by decide +kernel
theorem dX10_days_15 : decode cX10_days 15 = .ok (.iaload, 1) := by decide +kernel
theorem dX10_days_16 : decode cX10_days 16 = .ok (.iload_n 1, 1) := by decide +kernel
theorem dX10_days_17 : decode cX10_days 17 = .ok (.iadd, 1) := by decide +kernel
theorem dX10_days_18 : decode cX10_days 18 = .ok (.sipush 999, 3) := by decide +kernel
theorem dX10_days_21 : decode cX10_days 21 = .ok (.if_icmp .le 6, 3) := by decide +kernel
theorem dX10_days_24 : decode cX10_days 24 = .ok (.bipush 30, 2) := by decide +kernel
theorem dX10_days_26 : decode cX10_days 26 = .ok (.ireturn, 1) := by decide +kernel
theorem dX10_days_27 : decode cX10_days 27 = .ok (.aload_n 0, 1) := by decide +kernel
theorem dX10_days_28 : decode cX10_days 28 = .ok (.getfield 7, 3) := by decide +kernel
theorem dX10_days_31 : decode cX10_days 31 = .ok (.iconst 0, 1) := by decide +kernel
theorem dX10_days_32 : decode cX10_days 32 = .ok (.dup2, 1) := by decide +kernel
theorem dX10_days_33 : decode cX10_days 33 = .ok (.iaload, 1) := by decide +kernel
theorem dX10_days_34 : decode cX10_days 34 = .ok (.iload_n 1, 1) := by decide +kernel
theorem dX10_days_35 : decode cX10_days 35 = .ok (.iadd, 1) := by decide +kernel
theorem dX10_days_36 : decode cX10_days 36 = .ok (.iastore, 1) := by decide +kernel
theorem dX10_days_37 : decode cX10_days 37 = .ok (.iconst 0, 1) := by decide +kernel
theorem dX10_days_38 : decode cX10_days 38 = .ok (.ireturn, 1) := by decide +kernel
theorem dX10_defends_0 : decode cX10_defends 0 = .ok (.aload_n 0, 1) := by decide +kernel
theorem dX10_defends_1 : decode cX10_defends 1 = .ok (.iload_n 1, 1) := by decide +kernel
theorem dX10_defends_2 : decode cX10_defends 2 = .ok (.iload_n 2, 1) := by decide +kernel
theorem dX10_defends_3 : decode cX10_defends 3 = .ok (.invokevirtual 143, 3) := by decide +kernel
theorem dX10_defends_6 : decode cX10_defends 6 = .ok (.ifCond .ne 6, 3) := by decide +kernel
theorem dX10_defends_9 : decode cX10_defends 9 = .ok (.bipush 30, 2) := by decide +kernel
theorem dX10_defends_11 : decode cX10_defends 11 = .ok (.ireturn, 1) := by decide +kernel
theorem dX10_defends_12 : decode cX10_defends 12 = .ok (.iconst 0, 1) := by decide +kernel
theorem dX10_defends_13 : decode cX10_defends 13 = .ok (.iload_n 1, 1) := by decide +kernel
theorem dX10_defends_14 : decode cX10_defends 14 = .ok (.invokestatic 109, 3) := by decide +kernel
theorem dX10_defends_17 : decode cX10_defends 17 = .ok (.iload_n 2, 1) := by decide +kernel
theorem dX10_defends_18 : decode cX10_defends 18 = .ok (.invokestatic 56, 3) := by decide +kernel
theorem dX10_defends_21 : decode cX10_defends 21 = .ok (.istore 4, 2) := by decide +kernel
theorem dX10_defends_23 : decode cX10_defends 23 = .ok (.iload_n 3, 1) := by decide +kernel
theorem dX10_defends_24 : decode cX10_defends 24 = .ok (.ifCond .eq 7, 3) := by decide +kernel
theorem dX10_defends_27 : decode cX10_defends 27 = .ok (.iconst 1, 1) := by decide +kernel
theorem dX10_defends_28 : decode cX10_defends 28 = .ok (.goto 4, 3) := by decide +kernel
theorem dX10_defends_31 : decode cX10_defends 31 = .ok (.iconst 2, 1) := by decide +kernel
theorem dX10_defends_32 : decode cX10_defends 32 = .ok (.istore 5, 2) := by decide +kernel
theorem dX10_defends_34 : decode cX10_defends 34 = .ok (.aload_n 0, 1) := by decide +kernel
theorem dX10_defends_35 : decode cX10_defends 35 = .ok (.getfield 7, 3) := by decide +kernel
theorem dX10_defends_38 : decode cX10_defends 38 = .ok (.iload 4, 2) := by decide +kernel
theorem dX10_defends_40 : decode cX10_defends 40 = .ok (.iconst 3, 1) := by decide +kernel
theorem dX10_defends_41 : decode cX10_defends 41 = .ok (.iadd, 1) := by decide +kernel
theorem dX10_defends_42 : decode cX10_defends 42 = .ok (.iaload, 1) := by decide +kernel
theorem dX10_defends_43 : decode cX10_defends 43 = .ok (.iload 5, 2) := by decide +kernel
theorem dX10_defends_45 : decode cX10_defends 45 = .ok (.iand, 1) := by decide +kernel
theorem dX10_defends_46 : decode cX10_defends 46 = .ok (.ifCond .le 6, 3) := by decide +kernel
theorem dX10_defends_49 : decode cX10_defends 49 = .ok (.bipush 31, 2) := by decide +kernel
theorem dX10_defends_51 : decode cX10_defends 51 = .ok (.ireturn, 1) := by decide +kernel
theorem dX10_defends_52 : decode cX10_defends 52 = .ok (.aload_n 0, 1) := by decide +kernel
theorem dX10_defends_53 : decode cX10_defends 53 = .ok (.getfield 7, 3) := by decide +kernel
theorem dX10_defends_56 : decode cX10_defends 56 = .ok (.iload 4, 2) := by decide +kernel
theorem dX10_defends_58 : decode cX10_defends 58 = .ok (.iconst 3, 1) := by decide +kernel
theorem dX10_defends_59 : decode cX10_defends 59 = .ok (.iadd, 1) := by decide +kernel
theorem dX10_defends_60 : decode cX10_defends 60 = .ok (.dup2, 1) := by decide +kernel
theorem dX10_defends_61 : decode cX10_defends 61 = .ok (.iaload, 1) := by decide +kernel
theorem dX10_defends_62 : decode cX10_defends 62 = .ok (.iload 5, 2) := by decide +kernel
theorem dX10_defends_64 : decode cX10_defends 64 = .ok (.ior, 1) := by decide +kernel
theorem dX10_defends_65 : decode cX10_defends 65 = .ok (.iastore, 1) := by decide +kernel
theorem dX10_defends_66 : decode cX10_defends 66 = .ok (.iconst 0, 1) := by decide +kernel
theorem dX10_defends_67 : decode cX10_defends 67 = .ok (.ireturn, 1) := by decide +kernel
theorem dX10_draws_0 : decode cX10_draws 0 = .ok (.iload_n 1, 1) := by decide +kernel
theorem dX10_draws_1 : decode cX10_draws 1 = .ok (.invokestatic 100, 3) := by decide +kernel
theorem dX10_draws_4 : decode cX10_draws 4 = .ok (.ifCond .eq 50, 3) := by decide +kernel
theorem dX10_draws_7 : decode cX10_draws 7 = .ok (.iload_n 2, 1) := by decide +kernel
theorem dX10_draws_8 : decode cX10_draws 8 = .ok (.invokestatic 100, 3) := by decide +kernel
theorem dX10_draws_11 : decode cX10_draws 11 = .ok (.ifCond .eq 43, 3) := by decide +kernel
theorem dX10_draws_14 : decode cX10_draws 14 = .ok (.iload_n 3, 1) := by decide +kernel
theorem dX10_draws_15 : decode cX10_draws 15 = .ok (.invokestatic 100, 3) := by decide +kernel
theorem dX10_draws_18 : decode cX10_draws 18 = .ok (.ifCond .eq 36, 3) := by decide +kernel
theorem dX10_draws_21 : decode cX10_draws 21 = .ok (.iload 5, 2) := by decide +kernel
theorem dX10_draws_23 : decode cX10_draws 23 = .ok (.iconst 1, 1) := by decide +kernel
theorem dX10_draws_24 : decode cX10_draws 24 = .ok (.sipush 999, 3) := by decide +kernel
theorem dX10_draws_27 : decode cX10_draws 27 = .ok (.invokestatic 33, 3) := by decide +kernel
theorem dX10_draws_30 : decode cX10_draws 30 = .ok (.ifCond .eq 24, 3) := by decide +kernel
theorem dX10_draws_33 : decode cX10_draws 33 = .ok (.iload 6, 2) := by decide +kernel
theorem dX10_draws_35 : decode cX10_draws 35 = .ok (.iconst 0, 1) := by decide +kernel
theorem dX10_draws_36 : decode cX10_draws 36 = .ok (.bipush 99, 2) := by decide +kernel
theorem dX10_draws_38 : decode cX10_draws 38 = .ok (.invokestatic 33, 3) := by decide +kernel
theorem dX10_draws_41 : decode cX10_draws 41 = .ok (.ifCond .eq 13, 3) := by decide +kernel
theorem dX10_draws_44 : decode cX10_draws 44 = .ok (.aload_n 0, 1) := by decide +kernel
theorem dX10_draws_45 : decode cX10_draws 45 = .ok (.getfield 7, 3) := by decide +kernel
theorem dX10_draws_48 : decode cX10_draws 48 = .ok (.iconst 1, 1) := by decide +kernel
theorem dX10_draws_49 : decode cX10_draws 49 = .ok (.iaload, 1) := by decide +kernel
theorem dX10_draws_50 : decode cX10_draws 50 = .ok (.iconst 4, 1) := by decide +kernel
theorem dX10_draws_51 : decode cX10_draws 51 = .ok (.if_icmp .ne 6, 3) := by decide +kernel
theorem dX10_draws_54 : decode cX10_draws 54 = .ok (.bipush 30, 2) := by decide +kernel
theorem dX10_draws_56 : decode cX10_draws 56 = .ok (.ireturn, 1) := by decide +kernel
theorem dX10_draws_57 : decode cX10_draws 57 = .ok (.iconst 0, 1) := by decide +kernel
theorem dX10_draws_58 : decode cX10_draws 58 = .ok (.aload_n 0, 1) := by decide +kernel
theorem dX10_draws_59 : decode cX10_draws 59 = .ok (.getfield 7, 3) := by decide +kernel
theorem dX10_draws_62 : decode cX10_draws 62 = .ok (.iconst 1, 1) := by decide +kernel
theorem dX10_draws_63 : decode cX10_draws 63 = .ok (.iaload, 1) := by decide +kernel
theorem dX10_draws_64 : decode cX10_draws 64 = .ok (.invokestatic 109, 3) := by decide +kernel
theorem dX10_draws_67 : decode cX10_draws 67 = .ok (.istore 7, 2) := by decide +kernel
theorem dX10_draws_69 : decode cX10_draws 69 = .ok (.iconst 0, 1) := by decide +kernel
theorem dX10_draws_70 : decode cX10_draws 70 = .ok (.istore 8, 2) := by decide +kernel
theorem dX10_draws_72 : decode cX10_draws 72 = .ok (.iload 8, 2) := by decide +kernel
theorem dX10_draws_74 : decode cX10_draws 74 = .ok (.sipush 280, 3) := by decide +kernel
theorem dX10_draws_77 : decode cX10_draws 77 = .ok (.if_icmp .ge 20, 3) := by decide +kernel
theorem dX10_draws_80 : decode cX10_draws 80 = .ok (.aload_n 0, 1) := by decide +kernel
theorem dX10_draws_81 : decode cX10_draws 81 = .ok (.getfield 7, 3) := by decide +kernel
theorem dX10_draws_84 : decode cX10_draws 84 = .ok (.iload 7, 2) := by decide +kernel
theorem dX10_draws_86 : decode cX10_draws 86 = .ok (.iload 8, 2) := by decide +kernel
theorem dX10_draws_88 : decode cX10_draws 88 = .ok (.iadd, 1) := by decide +kernel
theorem dX10_draws_89 : decode cX10_draws 89 = .ok (.iconst 0, 1) := by decide +kernel
theorem dX10_draws_90 : decode cX10_draws 90 = .ok (.iastore, 1) := by decide +kernel
theorem dX10_draws_91 : decode cX10_draws 91 = .ok (.iinc 8 1, 3) := by decide +kernel
theorem dX10_draws_94 : decode cX10_draws 94 = .ok (.goto (-22), 3) := by decide +kernel
theorem dX10_draws_97 : decode cX10_draws 97 = .ok (.aload_n 0, 1) := by decide +kernel
theorem dX10_draws_98 : decode cX10_draws 98 = .ok (.getfield 7, 3) := by decide +kernel
theorem dX10_draws_101 : decode cX10_draws 101 = .ok (.iload 7, 2) := by decide +kernel
theorem dX10_draws_103 : decode cX10_draws 103 = .ok (.iconst 0, 1) := by decide +kernel
theorem dX10_draws_104 : decode cX10_draws 104 = .ok (.iadd, 1) := by decide +kernel
theorem dX10_draws_105 : decode cX10_draws 105 = .ok (.iload_n 1, 1) := by decide +kernel
theorem dX10_draws_106 : decode cX10_draws 106 = .ok (.iastore, 1) := by decide +kernel
theorem dX10_draws_107 : decode cX10_draws 107 = .ok (.aload_n 0, 1) := by decide +kernel
theorem dX10_draws_108 : decode cX10_draws 108 = .ok (.getfield 7, 3) := by decide +kernel
theorem dX10_draws_111 : decode cX10_draws 111 = .ok (.iload 7, 2) := by decide +kernel
theorem dX10_draws_113 : decode cX10_draws 113 = .ok (.iconst 1, 1) := by decide +kernel
theorem dX10_draws_114 : decode cX10_draws 114 = .ok (.iadd, 1) := by decide +kernel
theorem dX10_draws_115 : decode cX10_draws 115 = .ok (.iload_n 2, 1) := by decide +kernel
theorem dX10_draws_116 : decode cX10_draws 116 = .ok (.iastore, 1) := by decide +kernel
theorem dX10_draws_117 : decode cX10_draws 117 = .ok (.aload_n 0, 1) := by decide +kernel
theorem dX10_draws_118 : decode cX10_draws 118 = .ok (.getfield 7, 3) := by decide +kernel
theorem dX10_draws_121 : decode cX10_draws 121 = .ok (.iload 7, 2) := by decide +kernel
theorem dX10_draws_123 : decode cX10_draws 123 = .ok (.iconst 2, 1) := by decide +kernel
theorem dX10_draws_124 : decode cX10_draws 124 = .ok (.iadd, 1) := by decide +kernel
theorem dX10_draws_125 : decode cX10_draws 125 = .ok (.iload_n 3, 1) := by decide +kernel
theorem dX10_draws_126 : decode cX10_draws 126 = .ok (.iastore, 1) := by decide +kernel
theorem dX10_draws_127 : decode cX10_draws 127 = .ok (.aload_n 0, 1) := by decide +kernel
theorem dX10_draws_128 : decode cX10_draws 128 = .ok (.getfield 7, 3) := by decide +kernel
theorem dX10_draws_131 : decode cX10_draws 131 = .ok (.iload 7, 2) := by decide +kernel
theorem dX10_draws_133 : decode cX10_draws 133 = .ok (.iconst 3, 1) := by decide +kernel
theorem dX10_draws_134 : decode cX10_draws 134 = .ok (.iadd, 1) := by decide +kernel
theorem dX10_draws_135 : decode cX10_draws 135 = .ok (.iload 5, 2) := by decide +kernel
theorem dX10_draws_137 : decode cX10_draws 137 = .ok (.iastore, 1) := by decide +kernel
theorem dX10_draws_138 : decode cX10_draws 138 = .ok (.aload_n 0, 1) := by decide +kernel
theorem dX10_draws_139 : decode cX10_draws 139 = .ok (.getfield 7, 3) := by decide +kernel
theorem dX10_draws_142 : decode cX10_draws 142 = .ok (.iload 7, 2) := by decide +kernel
theorem dX10_draws_144 : decode cX10_draws 144 = .ok (.iconst 4, 1) := by decide +kernel
theorem dX10_draws_145 : decode cX10_draws 145 = .ok (.iadd, 1) := by decide +kernel
theorem dX10_draws_146 : decode cX10_draws 146 = .ok (.aload_n 0, 1) := by decide +kernel
theorem dX10_draws_147 : decode cX10_draws 147 = .ok (.getfield 7, 3) := by decide +kernel
theorem dX10_draws_150 : decode cX10_draws 150 = .ok (.iconst 0, 1) := by decide +kernel
theorem dX10_draws_151 : decode cX10_draws 151 = .ok (.iaload, 1) := by decide +kernel
theorem dX10_draws_152 : decode cX10_draws 152 = .ok (.iload 6, 2) := by decide +kernel
theorem dX10_draws_154 : decode cX10_draws 154 = .ok (.iadd, 1) := by decide +kernel
theorem dX10_draws_155 : decode cX10_draws 155 = .ok (.iastore, 1) := by decide +kernel
theorem dX10_draws_156 : decode cX10_draws 156 = .ok (.aload_n 0, 1) := by decide +kernel
theorem dX10_draws_157 : decode cX10_draws 157 = .ok (.getfield 7, 3) := by decide +kernel
theorem dX10_draws_160 : decode cX10_draws 160 = .ok (.iload 7, 2) := by decide +kernel
theorem dX10_draws_162 : decode cX10_draws 162 = .ok (.iconst 5, 1) := by decide +kernel
theorem dX10_draws_163 : decode cX10_draws 163 = .ok (.iadd, 1) := by decide +kernel
theorem dX10_draws_164 : decode cX10_draws 164 = .ok (.iload 4, 2) := by decide +kernel
theorem dX10_draws_166 : decode cX10_draws 166 = .ok (.ifCond .eq 7, 3) := by decide +kernel
theorem dX10_draws_169 : decode cX10_draws 169 = .ok (.iconst 1, 1) := by decide +kernel
theorem dX10_draws_170 : decode cX10_draws 170 = .ok (.goto 4, 3) := by decide +kernel
theorem dX10_draws_173 : decode cX10_draws 173 = .ok (.iconst 0, 1) := by decide +kernel
theorem dX10_draws_174 : decode cX10_draws 174 = .ok (.iastore, 1) := by decide +kernel
theorem dX10_draws_175 : decode cX10_draws 175 = .ok (.aload_n 0, 1) := by decide +kernel
theorem dX10_draws_176 : decode cX10_draws 176 = .ok (.getfield 7, 3) := by decide +kernel
theorem dX10_draws_179 : decode cX10_draws 179 = .ok (.iload 7, 2) := by decide +kernel
theorem dX10_draws_181 : decode cX10_draws 181 = .ok (.bipush 7, 2) := by decide +kernel
theorem dX10_draws_183 : decode cX10_draws 183 = .ok (.iadd, 1) := by decide +kernel
theorem dX10_draws_184 : decode cX10_draws 184 = .ok (.iload_n 3, 1) := by decide +kernel
theorem dX10_draws_185 : decode cX10_draws 185 = .ok (.iastore, 1) := by decide +kernel
theorem dX10_draws_186 : decode cX10_draws 186 = .ok (.aload_n 0, 1) := by decide +kernel
theorem dX10_draws_187 : decode cX10_draws 187 = .ok (.getfield 7, 3) := by decide +kernel
theorem dX10_draws_190 : decode cX10_draws 190 = .ok (.iload 7, 2) := by decide +kernel
theorem dX10_draws_192 : decode cX10_draws 192 = .ok (.bipush 9, 2) := by decide +kernel
theorem dX10_draws_194 : decode cX10_draws 194 = .ok (.iadd, 1) := by decide +kernel
theorem dX10_draws_195 : decode cX10_draws 195 = .ok (.iconst (-1), 1) := by decide +kernel
theorem dX10_draws_196 : decode cX10_draws 196 = .ok (.iastore, 1) := by decide +kernel
theorem dX10_draws_197 : decode cX10_draws 197 = .ok (.aload_n 0, 1) := by decide +kernel
theorem dX10_draws_198 : decode cX10_draws 198 = .ok (.getfield 7, 3) := by decide +kernel
theorem dX10_draws_201 : decode cX10_draws 201 = .ok (.iload 7, 2) := by decide +kernel
theorem dX10_draws_203 : decode cX10_draws 203 = .ok (.bipush 19, 2) := by decide +kernel
theorem dX10_draws_205 : decode cX10_draws 205 = .ok (.iadd, 1) := by decide +kernel
theorem dX10_draws_206 : decode cX10_draws 206 = .ok (.iconst (-1), 1) := by decide +kernel
theorem dX10_draws_207 : decode cX10_draws 207 = .ok (.iastore, 1) := by decide +kernel
theorem dX10_draws_208 : decode cX10_draws 208 = .ok (.aload_n 0, 1) := by decide +kernel
theorem dX10_draws_209 : decode cX10_draws 209 = .ok (.iload 7, 2) := by decide +kernel
theorem dX10_draws_211 : decode cX10_draws 211 = .ok (.iconst 0, 1) := by decide +kernel
theorem dX10_draws_212 : decode cX10_draws 212 = .ok (.invokestatic 56, 3) := by decide +kernel
theorem dX10_draws_215 : decode cX10_draws 215 = .ok (.invokevirtual 59, 3) := by decide +kernel
theorem dX10_draws_218 : decode cX10_draws 218 = .ok (.aload_n 0, 1) := by decide +kernel
theorem dX10_draws_219 : decode cX10_draws 219 = .ok (.iload 7, 2) := by decide +kernel
theorem dX10_draws_221 : decode cX10_draws 221 = .ok (.iconst 1, 1) := by decide +kernel
theorem dX10_draws_222 : decode cX10_draws 222 = .ok (.invokestatic 56, 3) := by decide +kernel
theorem dX10_draws_225 : decode cX10_draws 225 = .ok (.invokevirtual 59, 3) := by decide +kernel
theorem dX10_draws_228 : decode cX10_draws 228 = .ok (.aload_n 0, 1) := by decide +kernel
theorem dX10_draws_229 : decode cX10_draws 229 = .ok (.iload 7, 2) := by decide +kernel
theorem dX10_draws_231 : decode cX10_draws 231 = .ok (.invokevirtual 91, 3) := by decide +kernel
theorem dX10_draws_234 : decode cX10_draws 234 = .ok (.aload_n 0, 1) := by decide +kernel
theorem dX10_draws_235 : decode cX10_draws 235 = .ok (.getfield 7, 3) := by decide +kernel
theorem dX10_draws_238 : decode cX10_draws 238 = .ok (.iconst 1, 1) := by decide +kernel
theorem dX10_draws_239 : decode cX10_draws 239 = .ok (.dup2, 1) := by decide +kernel
theorem dX10_draws_240 : decode cX10_draws 240 = .ok (.iaload, 1) := by decide +kernel
theorem dX10_draws_241 : decode cX10_draws 241 = .ok (.iconst 1, 1) := by decide +kernel
theorem dX10_draws_242 : decode cX10_draws 242 = .ok (.iadd, 1) := by decide +kernel
theorem dX10_draws_243 : decode cX10_draws 243 = .ok (.iastore, 1) := by decide +kernel
theorem dX10_draws_244 : decode cX10_draws 244 = .ok (.iconst 0, 1) := by decide +kernel
theorem dX10_draws_245 : decode cX10_draws 245 = .ok (.ireturn, 1) := by decide +kernel
theorem dX10_finds_0 : decode cX10_finds 0 = .ok (.aload_n 0, 1) := by decide +kernel
theorem dX10_finds_1 : decode cX10_finds 1 = .ok (.iload_n 1, 1) := by decide +kernel
theorem dX10_finds_2 : decode cX10_finds 2 = .ok (.iload_n 2, 1) := by decide +kernel
theorem dX10_finds_3 : decode cX10_finds 3 = .ok (.iconst 0, 1) := by decide +kernel
theorem dX10_finds_4 : decode cX10_finds 4 = .ok (.invokevirtual 122, 3) := by decide +kernel
theorem dX10_finds_7 : decode cX10_finds 7 = .ok (.istore_n 3, 1) := by decide +kernel
theorem dX10_finds_8 : decode cX10_finds 8 = .ok (.iload_n 3, 1) := by decide +kernel
theorem dX10_finds_9 : decode cX10_finds 9 = .ok (.ifCond .le 7, 3) := by decide +kernel
theorem dX10_finds_12 : decode cX10_finds 12 = .ok (.iload_n 3, 1) := by decide +kernel
theorem dX10_finds_13 : decode cX10_finds 13 = .ok (.goto 20, 3) := by decide +kernel
theorem dX10_finds_16 : decode cX10_finds 16 = .ok (.aload_n 0, 1) := by decide +kernel
theorem dX10_finds_17 : decode cX10_finds 17 = .ok (.iconst 0, 1) := by decide +kernel
theorem dX10_finds_18 : decode cX10_finds 18 = .ok (.iconst 0, 1) := by decide +kernel
theorem dX10_finds_19 : decode cX10_finds 19 = .ok (.iload_n 1, 1) := by decide +kernel
theorem dX10_finds_20 : decode cX10_finds 20 = .ok (.invokestatic 109, 3) := by decide +kernel
theorem dX10_finds_23 : decode cX10_finds 23 = .ok (.iconst 4, 1) := by decide +kernel
theorem dX10_finds_24 : decode cX10_finds 24 = .ok (.iconst (-1), 1) := by decide +kernel
theorem dX10_finds_25 : decode cX10_finds 25 = .ok (.iconst (-1), 1) := by decide +kernel
theorem dX10_finds_26 : decode cX10_finds 26 = .ok (.iload_n 2, 1) := by decide +kernel
theorem dX10_finds_27 : decode cX10_finds 27 = .ok (.iconst 0, 1) := by decide +kernel
theorem dX10_finds_28 : decode cX10_finds 28 = .ok (.iconst 0, 1) := by decide +kernel
theorem dX10_finds_29 : decode cX10_finds 29 = .ok (.iconst 0, 1) := by decide +kernel
theorem dX10_finds_30 : decode cX10_finds 30 = .ok (.invokevirtual 125, 3) := by decide +kernel
theorem dX10_finds_33 : decode cX10_finds 33 = .ok (.ireturn, 1) := by decide +kernel
theorem dX10_forges_0 : decode cX10_forges 0 = .ok (.aload_n 0, 1) := by decide +kernel
theorem dX10_forges_1 : decode cX10_forges 1 = .ok (.iload_n 1, 1) := by decide +kernel
theorem dX10_forges_2 : decode cX10_forges 2 = .ok (.invokevirtual 116, 3) := by decide +kernel
theorem dX10_forges_5 : decode cX10_forges 5 = .ok (.ifCond .eq 27, 3) := by decide +kernel
theorem dX10_forges_8 : decode cX10_forges 8 = .ok (.iload_n 2, 1) := by decide +kernel
theorem dX10_forges_9 : decode cX10_forges 9 = .ok (.invokestatic 100, 3) := by decide +kernel
theorem dX10_forges_12 : decode cX10_forges 12 = .ok (.ifCond .eq 20, 3) := by decide +kernel
theorem dX10_forges_15 : decode cX10_forges 15 = .ok (.iload_n 2, 1) := by decide +kernel
theorem dX10_forges_16 : decode cX10_forges 16 = .ok (.aload_n 0, 1) := by decide +kernel
theorem dX10_forges_17 : decode cX10_forges 17 = .ok (.getfield 7, 3) := by decide +kernel
theorem dX10_forges_20 : decode cX10_forges 20 = .ok (.iconst 0, 1) := by decide +kernel
theorem dX10_forges_21 : decode cX10_forges 21 = .ok (.iload_n 1, 1) := by decide +kernel
theorem dX10_forges_22 : decode cX10_forges 22 = .ok (.invokestatic 109, 3) := by decide +kernel
theorem dX10_forges_25 : decode cX10_forges 25 = .ok (.bipush 7, 2) := by decide +kernel
theorem dX10_forges_27 : decode cX10_forges 27 = .ok (.iadd, 1) := by decide +kernel
theorem dX10_forges_28 : decode cX10_forges 28 = .ok (.iaload, 1) := by decide +kernel
theorem dX10_forges_29 : decode cX10_forges 29 = .ok (.if_icmp .ne 6, 3) := by decide +kernel
theorem dX10_forges_32 : decode cX10_forges 32 = .ok (.bipush 30, 2) := by decide +kernel
theorem dX10_forges_34 : decode cX10_forges 34 = .ok (.ireturn, 1) := by decide +kernel
theorem dX10_forges_35 : decode cX10_forges 35 = .ok (.aload_n 0, 1) := by decide +kernel
theorem dX10_forges_36 : decode cX10_forges 36 = .ok (.iload_n 1, 1) := by decide +kernel
theorem dX10_forges_37 : decode cX10_forges 37 = .ok (.iload_n 3, 1) := by decide +kernel
theorem dX10_forges_38 : decode cX10_forges 38 = .ok (.iload 4, 2) := by decide +kernel
theorem dX10_forges_40 : decode cX10_forges 40 = .ok (.invokevirtual 122, 3) := by decide +kernel
theorem dX10_forges_43 : decode cX10_forges 43 = .ok (.istore 6, 2) := by decide +kernel
theorem dX10_forges_45 : decode cX10_forges 45 = .ok (.iload 6, 2) := by decide +kernel
theorem dX10_forges_47 : decode cX10_forges 47 = .ok (.ifCond .le 6, 3) := by decide +kernel
theorem dX10_forges_50 : decode cX10_forges 50 = .ok (.iload 6, 2) := by decide +kernel
theorem dX10_forges_52 : decode cX10_forges 52 = .ok (.ireturn, 1) := by decide +kernel
theorem dX10_forges_53 : decode cX10_forges 53 = .ok (.iconst 0, 1) := by decide +kernel
theorem dX10_forges_54 : decode cX10_forges 54 = .ok (.iload_n 1, 1) := by decide +kernel
theorem dX10_forges_55 : decode cX10_forges 55 = .ok (.invokestatic 109, 3) := by decide +kernel
theorem dX10_forges_58 : decode cX10_forges 58 = .ok (.istore 7, 2) := by decide +kernel
theorem dX10_forges_60 : decode cX10_forges 60 = .ok (.aload_n 0, 1) := by decide +kernel
theorem dX10_forges_61 : decode cX10_forges 61 = .ok (.iconst 0, 1) := by decide +kernel
theorem dX10_forges_62 : decode cX10_forges 62 = .ok (.iload 7, 2) := by decide +kernel
theorem dX10_forges_64 : decode cX10_forges 64 = .ok (.iconst 1, 1) := by decide +kernel
theorem dX10_forges_65 : decode cX10_forges 65 = .ok (.aload_n 0, 1) := by decide +kernel
theorem dX10_forges_66 : decode cX10_forges 66 = .ok (.getfield 7, 3) := by decide +kernel
theorem dX10_forges_69 : decode cX10_forges 69 = .ok (.iload 7, 2) := by decide +kernel
theorem dX10_forges_71 : decode cX10_forges 71 = .ok (.bipush 7, 2) := by decide +kernel
theorem dX10_forges_73 : decode cX10_forges 73 = .ok (.iadd, 1) := by decide +kernel
theorem dX10_forges_74 : decode cX10_forges 74 = .ok (.iaload, 1) := by decide +kernel
theorem dX10_forges_75 : decode cX10_forges 75 = .ok (.iload_n 2, 1) := by decide +kernel
theorem dX10_forges_76 : decode cX10_forges 76 = .ok (.iload_n 3, 1) := by decide +kernel
theorem dX10_forges_77 : decode cX10_forges 77 = .ok (.iload 4, 2) := by decide +kernel
theorem dX10_forges_79 : decode cX10_forges 79 = .ok (.iload 5, 2) := by decide +kernel
theorem dX10_forges_81 : decode cX10_forges 81 = .ok (.iconst 0, 1) := by decide +kernel
theorem dX10_forges_82 : decode cX10_forges 82 = .ok (.invokevirtual 125, 3) := by decide +kernel
theorem dX10_forges_85 : decode cX10_forges 85 = .ok (.ireturn, 1) := by decide +kernel
theorem dX10_graces_0 : decode cX10_graces 0 = .ok (.iload_n 1, 1) := by decide +kernel
theorem dX10_graces_1 : decode cX10_graces 1 = .ok (.iconst 1, 1) := by decide +kernel
theorem dX10_graces_2 : decode cX10_graces 2 = .ok (.bipush 9, 2) := by decide +kernel
theorem dX10_graces_4 : decode cX10_graces 4 = .ok (.invokestatic 33, 3) := by decide +kernel
theorem dX10_graces_7 : decode cX10_graces 7 = .ok (.ifCond .ne 6, 3) := by decide +kernel
theorem dX10_graces_10 : decode cX10_graces 10 = .ok (.bipush 30, 2) := by decide +kernel
theorem dX10_graces_12 : decode cX10_graces 12 = .ok (.ireturn, 1) := by decide +kernel
theorem dX10_graces_13 : decode cX10_graces 13 = .ok (.aload_n 0, 1) := by decide +kernel
theorem dX10_graces_14 : decode cX10_graces 14 = .ok (.getfield 7, 3) := by decide +kernel
theorem dX10_graces_17 : decode cX10_graces 17 = .ok (.iconst 2, 1) := by decide +kernel
theorem dX10_graces_18 : decode cX10_graces 18 = .ok (.iload_n 1, 1) := by decide +kernel
theorem dX10_graces_19 : decode cX10_graces 19 = .ok (.iastore, 1) := by decide +kernel
theorem dX10_graces_20 : decode cX10_graces 20 = .ok (.iconst 0, 1) := by decide +kernel
theorem dX10_graces_21 : decode cX10_graces 21 = .ok (.ireturn, 1) := by decide +kernel
theorem dX10_hasNow_0 : decode cX10_hasNow 0 = .ok (.iload_n 1, 1) := by decide +kernel
theorem dX10_hasNow_1 : decode cX10_hasNow 1 = .ok (.invokestatic 100, 3) := by decide +kernel
theorem dX10_hasNow_4 : decode cX10_hasNow 4 = .ok (.ifCond .eq 14, 3) := by decide +kernel
theorem dX10_hasNow_7 : decode cX10_hasNow 7 = .ok (.iload_n 2, 1) := by decide +kernel
theorem dX10_hasNow_8 : decode cX10_hasNow 8 = .ok (.iconst 0, 1) := by decide +kernel
theorem dX10_hasNow_9 : decode cX10_hasNow 9 = .ok (.sipush 9999, 3) := by decide +kernel
theorem dX10_hasNow_12 : decode cX10_hasNow 12 = .ok (.invokestatic 33, 3) := by decide +kernel
theorem dX10_hasNow_15 : decode cX10_hasNow 15 = .ok (.ifCond .ne 6, 3) := by decide +kernel
theorem dX10_hasNow_18 : decode cX10_hasNow 18 = .ok (.bipush 30, 2) := by decide +kernel
theorem dX10_hasNow_20 : decode cX10_hasNow 20 = .ok (.ireturn, 1) := by decide +kernel
theorem dX10_hasNow_21 : decode cX10_hasNow 21 = .ok (.aload_n 0, 1) := by decide +kernel
theorem dX10_hasNow_22 : decode cX10_hasNow 22 = .ok (.getfield 7, 3) := by decide +kernel
theorem dX10_hasNow_25 : decode cX10_hasNow 25 = .ok (.bipush 6, 2) := by decide +kernel
theorem dX10_hasNow_27 : decode cX10_hasNow 27 = .ok (.iload_n 1, 1) := by decide +kernel
theorem dX10_hasNow_28 : decode cX10_hasNow 28 = .ok (.iadd, 1) := by decide +kernel
theorem dX10_hasNow_29 : decode cX10_hasNow 29 = .ok (.iload_n 2, 1) := by decide +kernel
theorem dX10_hasNow_30 : decode cX10_hasNow 30 = .ok (.iastore, 1) := by decide +kernel
theorem dX10_hasNow_31 : decode cX10_hasNow 31 = .ok (.iconst 0, 1) := by decide +kernel
theorem dX10_hasNow_32 : decode cX10_hasNow 32 = .ok (.ireturn, 1) := by decide +kernel
theorem dX10_isSigned_0 : decode cX10_isSigned 0 = .ok (.aload_n 0, 1) := by decide +kernel
theorem dX10_isSigned_1 : decode cX10_isSigned 1 = .ok (.iload_n 1, 1) := by decide +kernel
theorem dX10_isSigned_2 : decode cX10_isSigned 2 = .ok (.invokevirtual 116, 3) := by decide +kernel
theorem dX10_isSigned_5 : decode cX10_isSigned 5 = .ok (.ifCond .eq 33, 3) := by decide +kernel
theorem dX10_isSigned_8 : decode cX10_isSigned 8 = .ok (.aload_n 0, 1) := by decide +kernel
theorem dX10_isSigned_9 : decode cX10_isSigned 9 = .ok (.iconst 0, 1) := by decide +kernel
theorem dX10_isSigned_10 : decode cX10_isSigned 10 = .ok (.iload_n 1, 1) := by decide +kernel
theorem dX10_isSigned_11 : decode cX10_isSigned 11 = .ok (.invokestatic 109, 3) := by decide +kernel
theorem dX10_isSigned_14 : decode cX10_isSigned 14 = .ok (.iload_n 2, 1) := by decide +kernel
theorem dX10_isSigned_15 : decode cX10_isSigned 15 = .ok (.invokevirtual 140, 3) := by decide +kernel
theorem dX10_isSigned_18 : decode cX10_isSigned 18 = .ok (.ifCond .eq 20, 3) := by decide +kernel
theorem dX10_isSigned_21 : decode cX10_isSigned 21 = .ok (.aload_n 0, 1) := by decide +kernel
theorem dX10_isSigned_22 : decode cX10_isSigned 22 = .ok (.iconst 0, 1) := by decide +kernel
theorem dX10_isSigned_23 : decode cX10_isSigned 23 = .ok (.iload_n 1, 1) := by decide +kernel
theorem dX10_isSigned_24 : decode cX10_isSigned 24 = .ok (.invokestatic 109, 3) := by decide +kernel
theorem dX10_isSigned_27 : decode cX10_isSigned 27 = .ok (.iload_n 2, 1) := by decide +kernel
theorem dX10_isSigned_28 : decode cX10_isSigned 28 = .ok (.invokevirtual 66, 3) := by decide +kernel
theorem dX10_isSigned_31 : decode cX10_isSigned 31 = .ok (.ifCond .eq 7, 3) := by decide +kernel
theorem dX10_isSigned_34 : decode cX10_isSigned 34 = .ok (.iconst 1, 1) := by decide +kernel
theorem dX10_isSigned_35 : decode cX10_isSigned 35 = .ok (.goto 4, 3) := by decide +kernel
theorem dX10_isSigned_38 : decode cX10_isSigned 38 = .ok (.iconst 0, 1) := by decide +kernel
theorem dX10_isSigned_39 : decode cX10_isSigned 39 = .ok (.ireturn, 1) := by decide +kernel
theorem dX10_notifies_0 : decode cX10_notifies 0 = .ok (.aload_n 0, 1) := by decide +kernel
theorem dX10_notifies_1 : decode cX10_notifies 1 = .ok (.iload_n 1, 1) := by decide +kernel
theorem dX10_notifies_2 : decode cX10_notifies 2 = .ok (.iload_n 3, 1) := by decide +kernel
theorem dX10_notifies_3 : decode cX10_notifies 3 = .ok (.invokevirtual 143, 3) := by decide +kernel
theorem dX10_notifies_6 : decode cX10_notifies 6 = .ok (.ifCond .eq 7, 3) := by decide +kernel
theorem dX10_notifies_9 : decode cX10_notifies 9 = .ok (.iload_n 3, 1) := by decide +kernel
theorem dX10_notifies_10 : decode cX10_notifies 10 = .ok (.ifCond .ne 6, 3) := by decide +kernel
theorem dX10_notifies_13 : decode cX10_notifies 13 = .ok (.bipush 30, 2) := by decide +kernel
theorem dX10_notifies_15 : decode cX10_notifies 15 = .ok (.ireturn, 1) := by decide +kernel
theorem dX10_notifies_16 : decode cX10_notifies 16 = .ok (.iconst 0, 1) := by decide +kernel
theorem dX10_notifies_17 : decode cX10_notifies 17 = .ok (.iload_n 1, 1) := by decide +kernel
theorem dX10_notifies_18 : decode cX10_notifies 18 = .ok (.invokestatic 109, 3) := by decide +kernel
theorem dX10_notifies_21 : decode cX10_notifies 21 = .ok (.istore 4, 2) := by decide +kernel
theorem dX10_notifies_23 : decode cX10_notifies 23 = .ok (.iload_n 2, 1) := by decide +kernel
theorem dX10_notifies_24 : decode cX10_notifies 24 = .ok (.iconst (-1), 1) := by decide +kernel
theorem dX10_notifies_25 : decode cX10_notifies 25 = .ok (.if_icmp .eq 17, 3) := by decide +kernel
theorem dX10_notifies_28 : decode cX10_notifies 28 = .ok (.aload_n 0, 1) := by decide +kernel
theorem dX10_notifies_29 : decode cX10_notifies 29 = .ok (.iload 4, 2) := by decide +kernel
theorem dX10_notifies_31 : decode cX10_notifies 31 = .ok (.iload_n 2, 1) := by decide +kernel
theorem dX10_notifies_32 : decode cX10_notifies 32 = .ok (.invokevirtual 140, 3) := by decide +kernel
theorem dX10_notifies_35 : decode cX10_notifies 35 = .ok (.ifCond .eq 26, 3) := by decide +kernel
theorem dX10_notifies_38 : decode cX10_notifies 38 = .ok (.iload_n 2, 1) := by decide +kernel
theorem dX10_notifies_39 : decode cX10_notifies 39 = .ok (.ifCond .eq 22, 3) := by decide +kernel
theorem dX10_notifies_42 : decode cX10_notifies 42 = .ok (.iload_n 3, 1) := by decide +kernel
theorem dX10_notifies_43 : decode cX10_notifies 43 = .ok (.iload_n 2, 1) := by decide +kernel
theorem dX10_notifies_44 : decode cX10_notifies 44 = .ok (.iconst (-1), 1) := by decide +kernel
theorem dX10_notifies_45 : decode cX10_notifies 45 = .ok (.if_icmp .ne 12, 3) := by decide +kernel
theorem dX10_notifies_48 : decode cX10_notifies 48 = .ok (.aload_n 0, 1) := by decide +kernel
theorem dX10_notifies_49 : decode cX10_notifies 49 = .ok (.iload 4, 2) := by decide +kernel
theorem dX10_notifies_51 : decode cX10_notifies 51 = .ok (.invokevirtual 77, 3) := by decide +kernel
theorem dX10_notifies_54 : decode cX10_notifies 54 = .ok (.goto 4, 3) := by decide +kernel
theorem dX10_notifies_57 : decode cX10_notifies 57 = .ok (.iload_n 2, 1) := by decide +kernel
theorem dX10_notifies_58 : decode cX10_notifies 58 = .ok (.if_icmp .lt 6, 3) := by decide +kernel
theorem dX10_notifies_61 : decode cX10_notifies 61 = .ok (.bipush 30, 2) := by decide +kernel
theorem dX10_notifies_63 : decode cX10_notifies 63 = .ok (.ireturn, 1) := by decide +kernel
theorem dX10_notifies_64 : decode cX10_notifies 64 = .ok (.aload_n 0, 1) := by decide +kernel
theorem dX10_notifies_65 : decode cX10_notifies 65 = .ok (.getfield 7, 3) := by decide +kernel
theorem dX10_notifies_68 : decode cX10_notifies 68 = .ok (.iload 4, 2) := by decide +kernel
theorem dX10_notifies_70 : decode cX10_notifies 70 = .ok (.bipush 9, 2) := by decide +kernel
theorem dX10_notifies_72 : decode cX10_notifies 72 = .ok (.iadd, 1) := by decide +kernel
theorem dX10_notifies_73 : decode cX10_notifies 73 = .ok (.iaload, 1) := by decide +kernel
theorem dX10_notifies_74 : decode cX10_notifies 74 = .ok (.iconst (-1), 1) := by decide +kernel
theorem dX10_notifies_75 : decode cX10_notifies 75 = .ok (.if_icmp .eq 20, 3) := by decide +kernel
theorem dX10_notifies_78 : decode cX10_notifies 78 = .ok (.aload_n 0, 1) := by decide +kernel
theorem dX10_notifies_79 : decode cX10_notifies 79 = .ok (.getfield 7, 3) := by decide +kernel
theorem dX10_notifies_82 : decode cX10_notifies 82 = .ok (.iload 4, 2) := by decide +kernel
theorem dX10_notifies_84 : decode cX10_notifies 84 = .ok (.iload_n 3, 1) := by decide +kernel
theorem dX10_notifies_85 : decode cX10_notifies 85 = .ok (.invokestatic 56, 3) := by decide +kernel
theorem dX10_notifies_88 : decode cX10_notifies 88 = .ok (.iconst 0, 1) := by decide +kernel
theorem dX10_notifies_89 : decode cX10_notifies 89 = .ok (.iadd, 1) := by decide +kernel
theorem dX10_notifies_90 : decode cX10_notifies 90 = .ok (.iaload, 1) := by decide +kernel
theorem dX10_notifies_91 : decode cX10_notifies 91 = .ok (.iconst (-1), 1) := by decide +kernel
theorem dX10_notifies_92 : decode cX10_notifies 92 = .ok (.if_icmp .eq 6, 3) := by decide +kernel
theorem dX10_notifies_95 : decode cX10_notifies 95 = .ok (.bipush 31, 2) := by decide +kernel
theorem dX10_notifies_97 : decode cX10_notifies 97 = .ok (.ireturn, 1) := by decide +kernel
theorem dX10_notifies_98 : decode cX10_notifies 98 = .ok (.iload_n 2, 1) := by decide +kernel
theorem dX10_notifies_99 : decode cX10_notifies 99 = .ok (.iconst (-1), 1) := by decide +kernel
theorem dX10_notifies_100 : decode cX10_notifies 100 = .ok (.if_icmp .ne 16, 3) := by decide +kernel
theorem dX10_notifies_103 : decode cX10_notifies 103 = .ok (.aload_n 0, 1) := by decide +kernel
theorem dX10_notifies_104 : decode cX10_notifies 104 = .ok (.getfield 7, 3) := by decide +kernel
theorem dX10_notifies_107 : decode cX10_notifies 107 = .ok (.iload 4, 2) := by decide +kernel
theorem dX10_notifies_109 : decode cX10_notifies 109 = .ok (.bipush 9, 2) := by decide +kernel
theorem dX10_notifies_111 : decode cX10_notifies 111 = .ok (.iadd, 1) := by decide +kernel
theorem dX10_notifies_112 : decode cX10_notifies 112 = .ok (.iaload, 1) := by decide +kernel
theorem dX10_notifies_113 : decode cX10_notifies 113 = .ok (.goto 16, 3) := by decide +kernel
theorem dX10_notifies_116 : decode cX10_notifies 116 = .ok (.aload_n 0, 1) := by decide +kernel
theorem dX10_notifies_117 : decode cX10_notifies 117 = .ok (.getfield 7, 3) := by decide +kernel
theorem dX10_notifies_120 : decode cX10_notifies 120 = .ok (.iload 4, 2) := by decide +kernel
theorem dX10_notifies_122 : decode cX10_notifies 122 = .ok (.iload_n 2, 1) := by decide +kernel
theorem dX10_notifies_123 : decode cX10_notifies 123 = .ok (.invokestatic 56, 3) := by decide +kernel
theorem dX10_notifies_126 : decode cX10_notifies 126 = .ok (.iconst 0, 1) := by decide +kernel
theorem dX10_notifies_127 : decode cX10_notifies 127 = .ok (.iadd, 1) := by decide +kernel
theorem dX10_notifies_128 : decode cX10_notifies 128 = .ok (.iaload, 1) := by decide +kernel
theorem dX10_notifies_129 : decode cX10_notifies 129 = .ok (.istore 5, 2) := by decide +kernel
theorem dX10_notifies_131 : decode cX10_notifies 131 = .ok (.iload 5, 2) := by decide +kernel
theorem dX10_notifies_133 : decode cX10_notifies 133 = .ok (.iconst (-1), 1) := by decide +kernel
theorem dX10_notifies_134 : decode cX10_notifies 134 = .ok (.if_icmp .eq 27, 3) := by decide +kernel
theorem dX10_notifies_137 : decode cX10_notifies 137 = .ok (.iload_n 2, 1) := by decide +kernel
theorem dX10_notifies_138 : decode cX10_notifies 138 = .ok (.iconst (-1), 1) := by decide +kernel
theorem dX10_notifies_139 : decode cX10_notifies 139 = .ok (.if_icmp .ne 12, 3) := by decide +kernel
theorem dX10_notifies_142 : decode cX10_notifies 142 = .ok (.aload_n 0, 1) := by decide +kernel
theorem dX10_notifies_143 : decode cX10_notifies 143 = .ok (.iload 4, 2) := by decide +kernel
theorem dX10_notifies_145 : decode cX10_notifies 145 = .ok (.invokevirtual 70, 3) := by decide +kernel
theorem dX10_notifies_148 : decode cX10_notifies 148 = .ok (.ifCond .eq 13, 3) := by decide +kernel
theorem dX10_notifies_151 : decode cX10_notifies 151 = .ok (.aload_n 0, 1) := by decide +kernel
theorem dX10_notifies_152 : decode cX10_notifies 152 = .ok (.iconst 0, 1) := by decide +kernel
theorem dX10_notifies_153 : decode cX10_notifies 153 = .ok (.iload 5, 2) := by decide +kernel
theorem dX10_notifies_155 : decode cX10_notifies 155 = .ok (.invokevirtual 74, 3) := by decide +kernel
theorem dX10_notifies_158 : decode cX10_notifies 158 = .ok (.ifCond .ne 6, 3) := by decide +kernel
theorem dX10_notifies_161 : decode cX10_notifies 161 = .ok (.bipush 31, 2) := by decide +kernel
theorem dX10_notifies_163 : decode cX10_notifies 163 = .ok (.ireturn, 1) := by decide +kernel
theorem dX10_notifies_164 : decode cX10_notifies 164 = .ok (.aload_n 0, 1) := by decide +kernel
theorem dX10_notifies_165 : decode cX10_notifies 165 = .ok (.getfield 7, 3) := by decide +kernel
theorem dX10_notifies_168 : decode cX10_notifies 168 = .ok (.iload 4, 2) := by decide +kernel
theorem dX10_notifies_170 : decode cX10_notifies 170 = .ok (.iload_n 3, 1) := by decide +kernel
theorem dX10_notifies_171 : decode cX10_notifies 171 = .ok (.invokestatic 56, 3) := by decide +kernel
theorem dX10_notifies_174 : decode cX10_notifies 174 = .ok (.iconst 0, 1) := by decide +kernel
theorem dX10_notifies_175 : decode cX10_notifies 175 = .ok (.iadd, 1) := by decide +kernel
theorem dX10_notifies_176 : decode cX10_notifies 176 = .ok (.aload_n 0, 1) := by decide +kernel
theorem dX10_notifies_177 : decode cX10_notifies 177 = .ok (.getfield 7, 3) := by decide +kernel
theorem dX10_notifies_180 : decode cX10_notifies 180 = .ok (.iconst 0, 1) := by decide +kernel
theorem dX10_notifies_181 : decode cX10_notifies 181 = .ok (.iaload, 1) := by decide +kernel
theorem dX10_notifies_182 : decode cX10_notifies 182 = .ok (.iastore, 1) := by decide +kernel
theorem dX10_notifies_183 : decode cX10_notifies 183 = .ok (.iconst 0, 1) := by decide +kernel
theorem dX10_notifies_184 : decode cX10_notifies 184 = .ok (.ireturn, 1) := by decide +kernel
theorem dX10_passes_0 : decode cX10_passes 0 = .ok (.iload_n 2, 1) := by decide +kernel
theorem dX10_passes_1 : decode cX10_passes 1 = .ok (.iconst 0, 1) := by decide +kernel
theorem dX10_passes_2 : decode cX10_passes 2 = .ok (.iconst 3, 1) := by decide +kernel
theorem dX10_passes_3 : decode cX10_passes 3 = .ok (.invokestatic 33, 3) := by decide +kernel
theorem dX10_passes_6 : decode cX10_passes 6 = .ok (.ifCond .eq 12, 3) := by decide +kernel
theorem dX10_passes_9 : decode cX10_passes 9 = .ok (.iload_n 3, 1) := by decide +kernel
theorem dX10_passes_10 : decode cX10_passes 10 = .ok (.ifCond .eq 11, 3) := by decide +kernel
theorem dX10_passes_13 : decode cX10_passes 13 = .ok (.iload_n 2, 1) := by decide +kernel
theorem dX10_passes_14 : decode cX10_passes 14 = .ok (.iconst 3, 1) := by decide +kernel
theorem dX10_passes_15 : decode cX10_passes 15 = .ok (.if_icmp .ne 6, 3) := by decide +kernel
theorem dX10_passes_18 : decode cX10_passes 18 = .ok (.bipush 30, 2) := by decide +kernel
