theorem dX10_endorses_0 : decode cX10_endorses 0 = .ok (.iload_n 1, 1) := by decide +kernel
theorem dX10_endorses_1 : decode cX10_endorses 1 = .ok (.iload_n 2, 1) := by decide +kernel
theorem dX10_endorses_2 : decode cX10_endorses 2 = .ok (.invokestatic 37, 3) := by decide +kernel
theorem dX10_endorses_5 : decode cX10_endorses 5 = .ok (.istore 4, 2) := by decide +kernel
theorem dX10_endorses_7 : decode cX10_endorses 7 = .ok (.aload_n 0, 1) := by decide +kernel
theorem dX10_endorses_8 : decode cX10_endorses 8 = .ok (.getfield 7, 3) := by decide +kernel
theorem dX10_endorses_11 : decode cX10_endorses 11 = .ok (.iload 4, 2) := by decide +kernel
theorem dX10_endorses_13 : decode cX10_endorses 13 = .ok (.iconst 3, 1) := by decide +kernel
theorem dX10_endorses_14 : decode cX10_endorses 14 = .ok (.iadd, 1) := by decide +kernel
theorem dX10_endorses_15 : decode cX10_endorses 15 = .ok (.iaload, 1) := by decide +kernel
theorem dX10_endorses_16 : decode cX10_endorses 16 = .ok (.istore 5, 2) := by decide +kernel
theorem dX10_endorses_18 : decode cX10_endorses 18 = .ok (.aload_n 0, 1) := by decide +kernel
theorem dX10_endorses_19 : decode cX10_endorses 19 = .ok (.getfield 7, 3) := by decide +kernel
theorem dX10_endorses_22 : decode cX10_endorses 22 = .ok (.iload 4, 2) := by decide +kernel
theorem dX10_endorses_24 : decode cX10_endorses 24 = .ok (.iconst 0, 1) := by decide +kernel
theorem dX10_endorses_25 : decode cX10_endorses 25 = .ok (.iadd, 1) := by decide +kernel
theorem dX10_endorses_26 : decode cX10_endorses 26 = .ok (.iaload, 1) := by decide +kernel
theorem dX10_endorses_27 : decode cX10_endorses 27 = .ok (.istore 6, 2) := by decide +kernel
theorem dX10_endorses_29 : decode cX10_endorses 29 = .ok (.aload_n 0, 1) := by decide +kernel
theorem dX10_endorses_30 : decode cX10_endorses 30 = .ok (.getfield 7, 3) := by decide +kernel
theorem dX10_endorses_33 : decode cX10_endorses 33 = .ok (.iload_n 1, 1) := by decide +kernel
theorem dX10_endorses_34 : decode cX10_endorses 34 = .ok (.bipush 11, 2) := by decide +kernel
theorem dX10_endorses_36 : decode cX10_endorses 36 = .ok (.iadd, 1) := by decide +kernel
theorem dX10_endorses_37 : decode cX10_endorses 37 = .ok (.iaload, 1) := by decide +kernel
theorem dX10_endorses_38 : decode cX10_endorses 38 = .ok (.iconst 1, 1) := by decide +kernel
theorem dX10_endorses_39 : decode cX10_endorses 39 = .ok (.if_icmp .eq 86, 3) := by decide +kernel
theorem dX10_endorses_42 : decode cX10_endorses 42 = .ok (.aload_n 0, 1) := by decide +kernel
theorem dX10_endorses_43 : decode cX10_endorses 43 = .ok (.getfield 7, 3) := by decide +kernel
theorem dX10_endorses_46 : decode cX10_endorses 46 = .ok (.iload 4, 2) := by decide +kernel
theorem dX10_endorses_48 : decode cX10_endorses 48 = .ok (.iconst 2, 1) := by decide +kernel
theorem dX10_endorses_49 : decode cX10_endorses 49 = .ok (.iadd, 1) := by decide +kernel
theorem dX10_endorses_50 : decode cX10_endorses 50 = .ok (.iaload, 1) := by decide +kernel
theorem dX10_endorses_51 : decode cX10_endorses 51 = .ok (.aload_n 0, 1) := by decide +kernel
theorem dX10_endorses_52 : decode cX10_endorses 52 = .ok (.getfield 7, 3) := by decide +kernel
theorem dX10_endorses_55 : decode cX10_endorses 55 = .ok (.iload_n 1, 1) := by decide +kernel
theorem dX10_endorses_56 : decode cX10_endorses 56 = .ok (.bipush 12, 2) := by decide +kernel
theorem dX10_endorses_58 : decode cX10_endorses 58 = .ok (.iadd, 1) := by decide +kernel
theorem dX10_endorses_59 : decode cX10_endorses 59 = .ok (.iaload, 1) := by decide +kernel
theorem dX10_endorses_60 : decode cX10_endorses 60 = .ok (.if_icmp .eq 7, 3) := by decide +kernel
theorem dX10_endorses_63 : decode cX10_endorses 63 = .ok (.iconst 1, 1) := by decide +kernel
theorem dX10_endorses_64 : decode cX10_endorses 64 = .ok (.goto 4, 3) := by decide +kernel
theorem dX10_endorses_67 : decode cX10_endorses 67 = .ok (.iconst 0, 1) := by decide +kernel
theorem dX10_endorses_68 : decode cX10_endorses 68 = .ok (.istore 7, 2) := by decide +kernel
theorem dX10_endorses_70 : decode cX10_endorses 70 = .ok (.iload 7, 2) := by decide +kernel
theorem dX10_endorses_72 : decode cX10_endorses 72 = .ok (.ifCond .ne 21, 3) := by decide +kernel
theorem dX10_endorses_75 : decode cX10_endorses 75 = .ok (.aload_n 0, 1) := by decide +kernel
theorem dX10_endorses_76 : decode cX10_endorses 76 = .ok (.getfield 7, 3) := by decide +kernel
theorem dX10_endorses_79 : decode cX10_endorses 79 = .ok (.iload 4, 2) := by decide +kernel
theorem dX10_endorses_81 : decode cX10_endorses 81 = .ok (.bipush 11, 2) := by decide +kernel
theorem dX10_endorses_83 : decode cX10_endorses 83 = .ok (.iadd, 1) := by decide +kernel
theorem dX10_endorses_84 : decode cX10_endorses 84 = .ok (.iaload, 1) := by decide +kernel
theorem dX10_endorses_85 : decode cX10_endorses 85 = .ok (.iconst 1, 1) := by decide +kernel
theorem dX10_endorses_86 : decode cX10_endorses 86 = .ok (.if_icmp .ne 39, 3) := by decide +kernel
theorem dX10_endorses_89 : decode cX10_endorses 89 = .ok (.iload_n 3, 1) := by decide +kernel
theorem dX10_endorses_90 : decode cX10_endorses 90 = .ok (.ifCond .ne 35, 3) := by decide +kernel
theorem dX10_endorses_93 : decode cX10_endorses 93 = .ok (.aload_n 0, 1) := by decide +kernel
theorem dX10_endorses_94 : decode cX10_endorses 94 = .ok (.getfield 7, 3) := by decide +kernel
theorem dX10_endorses_97 : decode cX10_endorses 97 = .ok (.iload_n 1, 1) := by decide +kernel
theorem dX10_endorses_98 : decode cX10_endorses 98 = .ok (.bipush 16, 2) := by decide +kernel
theorem dX10_endorses_100 : decode cX10_endorses 100 = .ok (.iadd, 1) := by decide +kernel
theorem dX10_endorses_101 : decode cX10_endorses 101 = .ok (.iload_n 2, 1) := by decide +kernel
theorem dX10_endorses_102 : decode cX10_endorses 102 = .ok (.iastore, 1) := by decide +kernel
theorem dX10_endorses_103 : decode cX10_endorses 103 = .ok (.aload_n 0, 1) := by decide +kernel
theorem dX10_endorses_104 : decode cX10_endorses 104 = .ok (.getfield 7, 3) := by decide +kernel
theorem dX10_endorses_107 : decode cX10_endorses 107 = .ok (.iload_n 1, 1) := by decide +kernel
theorem dX10_endorses_108 : decode cX10_endorses 108 = .ok (.bipush 17, 2) := by decide +kernel
theorem dX10_endorses_110 : decode cX10_endorses 110 = .ok (.iadd, 1) := by decide +kernel
theorem dX10_endorses_111 : decode cX10_endorses 111 = .ok (.iload 7, 2) := by decide +kernel
theorem dX10_endorses_113 : decode cX10_endorses 113 = .ok (.ifCond .eq 8, 3) := by decide +kernel
theorem dX10_endorses_116 : decode cX10_endorses 116 = .ok (.bipush 13, 2) := by decide +kernel
theorem dX10_endorses_118 : decode cX10_endorses 118 = .ok (.goto 5, 3) := by decide +kernel
theorem dX10_endorses_121 : decode cX10_endorses 121 = .ok (.bipush 12, 2) := by decide +kernel
theorem dX10_endorses_123 : decode cX10_endorses 123 = .ok (.iastore, 1) := by decide +kernel
theorem dX10_endorses_124 : decode cX10_endorses 124 = .ok (.return_, 1) := by decide +kernel
theorem dX10_endorses_125 : decode cX10_endorses 125 = .ok (.aload_n 0, 1) := by decide +kernel
theorem dX10_endorses_126 : decode cX10_endorses 126 = .ok (.getfield 7, 3) := by decide +kernel
theorem dX10_endorses_129 : decode cX10_endorses 129 = .ok (.iload_n 1, 1) := by decide +kernel
theorem dX10_endorses_130 : decode cX10_endorses 130 = .ok (.bipush 11, 2) := by decide +kernel
theorem dX10_endorses_132 : decode cX10_endorses 132 = .ok (.iadd, 1) := by decide +kernel
theorem dX10_endorses_133 : decode cX10_endorses 133 = .ok (.iaload, 1) := by decide +kernel
theorem dX10_endorses_134 : decode cX10_endorses 134 = .ok (.iconst 2, 1) := by decide +kernel
theorem dX10_endorses_135 : decode cX10_endorses 135 = .ok (.if_icmp .ne 15, 3) := by decide +kernel
theorem dX10_endorses_138 : decode cX10_endorses 138 = .ok (.aload_n 0, 1) := by decide +kernel
theorem dX10_endorses_139 : decode cX10_endorses 139 = .ok (.getfield 7, 3) := by decide +kernel
theorem dX10_endorses_142 : decode cX10_endorses 142 = .ok (.iload_n 1, 1) := by decide +kernel
theorem dX10_endorses_143 : decode cX10_endorses 143 = .ok (.bipush 12, 2) := by decide +kernel
theorem dX10_endorses_145 : decode cX10_endorses 145 = .ok (.iadd, 1) := by decide +kernel
theorem dX10_endorses_146 : decode cX10_endorses 146 = .ok (.iload 5, 2) := by decide +kernel
theorem dX10_endorses_148 : decode cX10_endorses 148 = .ok (.iastore, 1) := by decide +kernel
theorem dX10_endorses_149 : decode cX10_endorses 149 = .ok (.return_, 1) := by decide +kernel
theorem dX10_endorses_150 : decode cX10_endorses 150 = .ok (.aload_n 0, 1) := by decide +kernel
theorem dX10_endorses_151 : decode cX10_endorses 151 = .ok (.getfield 7, 3) := by decide +kernel
theorem dX10_endorses_154 : decode cX10_endorses 154 = .ok (.iload_n 1, 1) := by decide +kernel
theorem dX10_endorses_155 : decode cX10_endorses 155 = .ok (.bipush 11, 2) := by decide +kernel
theorem dX10_endorses_157 : decode cX10_endorses 157 = .ok (.iadd, 1) := by decide +kernel
theorem dX10_endorses_158 : decode cX10_endorses 158 = .ok (.iload 6, 2) := by decide +kernel
theorem dX10_endorses_160 : decode cX10_endorses 160 = .ok (.ifCond .ne 7, 3) := by decide +kernel
theorem dX10_endorses_163 : decode cX10_endorses 163 = .ok (.iconst 1, 1) := by decide +kernel
theorem dX10_endorses_164 : decode cX10_endorses 164 = .ok (.goto 14, 3) := by decide +kernel
theorem dX10_endorses_167 : decode cX10_endorses 167 = .ok (.iload 6, 2) := by decide +kernel
theorem dX10_endorses_169 : decode cX10_endorses 169 = .ok (.iconst 1, 1) := by decide +kernel
theorem dX10_endorses_170 : decode cX10_endorses 170 = .ok (.if_icmp .ne 7, 3) := by decide +kernel
theorem dX10_endorses_173 : decode cX10_endorses 173 = .ok (.iconst 0, 1) := by decide +kernel
theorem dX10_endorses_174 : decode cX10_endorses 174 = .ok (.goto 4, 3) := by decide +kernel
theorem dX10_endorses_177 : decode cX10_endorses 177 = .ok (.iconst 2, 1) := by decide +kernel
theorem dX10_endorses_178 : decode cX10_endorses 178 = .ok (.iastore, 1) := by decide +kernel
theorem dX10_endorses_179 : decode cX10_endorses 179 = .ok (.aload_n 0, 1) := by decide +kernel
theorem dX10_endorses_180 : decode cX10_endorses 180 = .ok (.getfield 7, 3) := by decide +kernel
theorem dX10_endorses_183 : decode cX10_endorses 183 = .ok (.iload_n 1, 1) := by decide +kernel
theorem dX10_endorses_184 : decode cX10_endorses 184 = .ok (.bipush 12, 2) := by decide +kernel
theorem dX10_endorses_186 : decode cX10_endorses 186 = .ok (.iadd, 1) := by decide +kernel
theorem dX10_endorses_187 : decode cX10_endorses 187 = .ok (.iload 6, 2) := by decide +kernel
theorem dX10_endorses_189 : decode cX10_endorses 189 = .ok (.ifCond .ne 7, 3) := by decide +kernel
theorem dX10_endorses_192 : decode cX10_endorses 192 = .ok (.iconst (-1), 1) := by decide +kernel
theorem dX10_endorses_193 : decode cX10_endorses 193 = .ok (.goto 5, 3) := by decide +kernel
theorem dX10_endorses_196 : decode cX10_endorses 196 = .ok (.iload 5, 2) := by decide +kernel
theorem dX10_endorses_198 : decode cX10_endorses 198 = .ok (.iastore, 1) := by decide +kernel
theorem dX10_endorses_199 : decode cX10_endorses 199 = .ok (.iload 6, 2) := by decide +kernel
theorem dX10_endorses_201 : decode cX10_endorses 201 = .ok (.iconst 2, 1) := by decide +kernel
theorem dX10_endorses_202 : decode cX10_endorses 202 = .ok (.if_icmp .ge 9, 3) := by decide +kernel
theorem dX10_endorses_205 : decode cX10_endorses 205 = .ok (.aload_n 0, 1) := by decide +kernel
theorem dX10_endorses_206 : decode cX10_endorses 206 = .ok (.iload_n 1, 1) := by decide +kernel
theorem dX10_endorses_207 : decode cX10_endorses 207 = .ok (.iload_n 2, 1) := by decide +kernel
theorem dX10_endorses_208 : decode cX10_endorses 208 = .ok (.invokevirtual 48, 3) := by decide +kernel
theorem dX10_endorses_211 : decode cX10_endorses 211 = .ok (.return_, 1) := by decide +kernel
theorem dX10_gets_0 : decode cX10_gets 0 = .ok (.aload_n 0, 1) := by decide +kernel
theorem dX10_gets_1 : decode cX10_gets 1 = .ok (.getfield 7, 3) := by decide +kernel
theorem dX10_gets_4 : decode cX10_gets 4 = .ok (.iload_n 1, 1) := by decide +kernel
theorem dX10_gets_5 : decode cX10_gets 5 = .ok (.iload_n 2, 1) := by decide +kernel
theorem dX10_gets_6 : decode cX10_gets 6 = .ok (.invokestatic 37, 3) := by decide +kernel
theorem dX10_gets_9 : decode cX10_gets 9 = .ok (.iconst 3, 1) := by decide +kernel
theorem dX10_gets_10 : decode cX10_gets 10 = .ok (.iadd, 1) := by decide +kernel
theorem dX10_gets_11 : decode cX10_gets 11 = .ok (.iaload, 1) := by decide +kernel
theorem dX10_gets_12 : decode cX10_gets 12 = .ok (.istore_n 3, 1) := by decide +kernel
theorem dX10_gets_13 : decode cX10_gets 13 = .ok (.aload_n 0, 1) := by decide +kernel
theorem dX10_gets_14 : decode cX10_gets 14 = .ok (.getfield 7, 3) := by decide +kernel
theorem dX10_gets_17 : decode cX10_gets 17 = .ok (.iload_n 1, 1) := by decide +kernel
theorem dX10_gets_18 : decode cX10_gets 18 = .ok (.iload_n 2, 1) := by decide +kernel
theorem dX10_gets_19 : decode cX10_gets 19 = .ok (.invokestatic 37, 3) := by decide +kernel
theorem dX10_gets_22 : decode cX10_gets 22 = .ok (.bipush 10, 2) := by decide +kernel
theorem dX10_gets_24 : decode cX10_gets 24 = .ok (.iadd, 1) := by decide +kernel
theorem dX10_gets_25 : decode cX10_gets 25 = .ok (.iaload, 1) := by decide +kernel
theorem dX10_gets_26 : decode cX10_gets 26 = .ok (.iconst 1, 1) := by decide +kernel
theorem dX10_gets_27 : decode cX10_gets 27 = .ok (.if_icmp .ne 7, 3) := by decide +kernel
theorem dX10_gets_30 : decode cX10_gets 30 = .ok (.iconst 1, 1) := by decide +kernel
theorem dX10_gets_31 : decode cX10_gets 31 = .ok (.goto 4, 3) := by decide +kernel
theorem dX10_gets_34 : decode cX10_gets 34 = .ok (.iconst 0, 1) := by decide +kernel
theorem dX10_gets_35 : decode cX10_gets 35 = .ok (.istore 4, 2) := by decide +kernel
theorem dX10_gets_37 : decode cX10_gets 37 = .ok (.aload_n 0, 1) := by decide +kernel
theorem dX10_gets_38 : decode cX10_gets 38 = .ok (.getfield 7, 3) := by decide +kernel
theorem dX10_gets_41 : decode cX10_gets 41 = .ok (.iload_n 1, 1) := by decide +kernel
theorem dX10_gets_42 : decode cX10_gets 42 = .ok (.bipush 15, 2) := by decide +kernel
theorem dX10_gets_44 : decode cX10_gets 44 = .ok (.iadd, 1) := by decide +kernel
theorem dX10_gets_45 : decode cX10_gets 45 = .ok (.iaload, 1) := by decide +kernel
theorem dX10_gets_46 : decode cX10_gets 46 = .ok (.iconst 1, 1) := by decide +kernel
theorem dX10_gets_47 : decode cX10_gets 47 = .ok (.if_icmp .ne 52, 3) := by decide +kernel
theorem dX10_gets_50 : decode cX10_gets 50 = .ok (.iload_n 3, 1) := by decide +kernel
theorem dX10_gets_51 : decode cX10_gets 51 = .ok (.aload_n 0, 1) := by decide +kernel
theorem dX10_gets_52 : decode cX10_gets 52 = .ok (.getfield 7, 3) := by decide +kernel
theorem dX10_gets_55 : decode cX10_gets 55 = .ok (.iload_n 1, 1) := by decide +kernel
theorem dX10_gets_56 : decode cX10_gets 56 = .ok (.bipush 13, 2) := by decide +kernel
theorem dX10_gets_58 : decode cX10_gets 58 = .ok (.iadd, 1) := by decide +kernel
theorem dX10_gets_59 : decode cX10_gets 59 = .ok (.iaload, 1) := by decide +kernel
theorem dX10_gets_60 : decode cX10_gets 60 = .ok (.if_icmp .ne 16, 3) := by decide +kernel
theorem dX10_gets_63 : decode cX10_gets 63 = .ok (.aload_n 0, 1) := by decide +kernel
theorem dX10_gets_64 : decode cX10_gets 64 = .ok (.getfield 7, 3) := by decide +kernel
theorem dX10_gets_67 : decode cX10_gets 67 = .ok (.iload_n 1, 1) := by decide +kernel
theorem dX10_gets_68 : decode cX10_gets 68 = .ok (.bipush 15, 2) := by decide +kernel
theorem dX10_gets_70 : decode cX10_gets 70 = .ok (.iadd, 1) := by decide +kernel
theorem dX10_gets_71 : decode cX10_gets 71 = .ok (.iconst 0, 1) := by decide +kernel
theorem dX10_gets_72 : decode cX10_gets 72 = .ok (.iastore, 1) := by decide +kernel
theorem dX10_gets_73 : decode cX10_gets 73 = .ok (.goto 25, 3) := by decide +kernel
theorem dX10_gets_76 : decode cX10_gets 76 = .ok (.iload 4, 2) := by decide +kernel
theorem dX10_gets_78 : decode cX10_gets 78 = .ok (.ifCond .eq 20, 3) := by decide +kernel
theorem dX10_gets_81 : decode cX10_gets 81 = .ok (.aload_n 0, 1) := by decide +kernel
theorem dX10_gets_82 : decode cX10_gets 82 = .ok (.iload_n 1, 1) := by decide +kernel
theorem dX10_gets_83 : decode cX10_gets 83 = .ok (.iload_n 3, 1) := by decide +kernel
theorem dX10_gets_84 : decode cX10_gets 84 = .ok (.iconst 3, 1) := by decide +kernel
theorem dX10_gets_85 : decode cX10_gets 85 = .ok (.invokevirtual 44, 3) := by decide +kernel
theorem dX10_gets_88 : decode cX10_gets 88 = .ok (.aload_n 0, 1) := by decide +kernel
theorem dX10_gets_89 : decode cX10_gets 89 = .ok (.getfield 7, 3) := by decide +kernel
theorem dX10_gets_92 : decode cX10_gets 92 = .ok (.iload_n 1, 1) := by decide +kernel
theorem dX10_gets_93 : decode cX10_gets 93 = .ok (.bipush 15, 2) := by decide +kernel
theorem dX10_gets_95 : decode cX10_gets 95 = .ok (.iadd, 1) := by decide +kernel
theorem dX10_gets_96 : decode cX10_gets 96 = .ok (.iconst 0, 1) := by decide +kernel
theorem dX10_gets_97 : decode cX10_gets 97 = .ok (.iastore, 1) := by decide +kernel
theorem dX10_gets_98 : decode cX10_gets 98 = .ok (.return_, 1) := by decide +kernel
theorem dX10_gets_99 : decode cX10_gets 99 = .ok (.aload_n 0, 1) := by decide +kernel
theorem dX10_gets_100 : decode cX10_gets 100 = .ok (.getfield 7, 3) := by decide +kernel
theorem dX10_gets_103 : decode cX10_gets 103 = .ok (.iload_n 1, 1) := by decide +kernel
theorem dX10_gets_104 : decode cX10_gets 104 = .ok (.bipush 20, 2) := by decide +kernel
theorem dX10_gets_106 : decode cX10_gets 106 = .ok (.iadd, 1) := by decide +kernel
theorem dX10_gets_107 : decode cX10_gets 107 = .ok (.iload_n 3, 1) := by decide +kernel
theorem dX10_gets_108 : decode cX10_gets 108 = .ok (.iadd, 1) := by decide +kernel
theorem dX10_gets_109 : decode cX10_gets 109 = .ok (.iaload, 1) := by decide +kernel
theorem dX10_gets_110 : decode cX10_gets 110 = .ok (.istore 5, 2) := by decide +kernel
theorem dX10_gets_112 : decode cX10_gets 112 = .ok (.aload_n 0, 1) := by decide +kernel
theorem dX10_gets_113 : decode cX10_gets 113 = .ok (.iload_n 1, 1) := by decide +kernel
theorem dX10_gets_114 : decode cX10_gets 114 = .ok (.iload_n 3, 1) := by decide +kernel
theorem dX10_gets_115 : decode cX10_gets 115 = .ok (.iload 5, 2) := by decide +kernel
theorem dX10_gets_117 : decode cX10_gets 117 = .ok (.ifCond .le 8, 3) := by decide +kernel
theorem dX10_gets_120 : decode cX10_gets 120 = .ok (.iload 5, 2) := by decide +kernel
theorem dX10_gets_122 : decode cX10_gets 122 = .ok (.goto 30, 3) := by decide +kernel
theorem dX10_gets_125 : decode cX10_gets 125 = .ok (.iload 4, 2) := by decide +kernel
theorem dX10_gets_127 : decode cX10_gets 127 = .ok (.ifCond .eq 7, 3) := by decide +kernel
theorem dX10_gets_130 : decode cX10_gets 130 = .ok (.iconst 3, 1) := by decide +kernel
theorem dX10_gets_131 : decode cX10_gets 131 = .ok (.goto 21, 3) := by decide +kernel
theorem dX10_gets_134 : decode cX10_gets 134 = .ok (.aload_n 0, 1) := by decide +kernel
theorem dX10_gets_135 : decode cX10_gets 135 = .ok (.getfield 7, 3) := by decide +kernel
theorem dX10_gets_138 : decode cX10_gets 138 = .ok (.iload_n 1, 1) := by decide +kernel
theorem dX10_gets_139 : decode cX10_gets 139 = .ok (.bipush 14, 2) := by decide +kernel
theorem dX10_gets_141 : decode cX10_gets 141 = .ok (.iadd, 1) := by decide +kernel
theorem dX10_gets_142 : decode cX10_gets 142 = .ok (.iaload, 1) := by decide +kernel
theorem dX10_gets_143 : decode cX10_gets 143 = .ok (.iconst 1, 1) := by decide +kernel
theorem dX10_gets_144 : decode cX10_gets 144 = .ok (.if_icmp .le 7, 3) := by decide +kernel
theorem dX10_gets_147 : decode cX10_gets 147 = .ok (.iconst 2, 1) := by decide +kernel
theorem dX10_gets_148 : decode cX10_gets 148 = .ok (.goto 4, 3) := by decide +kernel
theorem dX10_gets_151 : decode cX10_gets 151 = .ok (.iconst 1, 1) := by decide +kernel
theorem dX10_gets_152 : decode cX10_gets 152 = .ok (.invokevirtual 44, 3) := by decide +kernel
theorem dX10_gets_155 : decode cX10_gets 155 = .ok (.return_, 1) := by decide +kernel
theorem dX10_goes_0 : decode cX10_goes 0 = .ok (.iload_n 1, 1) := by decide +kernel
theorem dX10_goes_1 : decode cX10_goes 1 = .ok (.iload_n 2, 1) := by decide +kernel
theorem dX10_goes_2 : decode cX10_goes 2 = .ok (.invokestatic 37, 3) := by decide +kernel
theorem dX10_goes_5 : decode cX10_goes 5 = .ok (.istore 4, 2) := by decide +kernel
theorem dX10_goes_7 : decode cX10_goes 7 = .ok (.aload_n 0, 1) := by decide +kernel
theorem dX10_goes_8 : decode cX10_goes 8 = .ok (.getfield 7, 3) := by decide +kernel
theorem dX10_goes_11 : decode cX10_goes 11 = .ok (.iload_n 1, 1) := by decide +kernel
theorem dX10_goes_12 : decode cX10_goes 12 = .ok (.bipush 16, 2) := by decide +kernel
theorem dX10_goes_14 : decode cX10_goes 14 = .ok (.iadd, 1) := by decide +kernel
theorem dX10_goes_15 : decode cX10_goes 15 = .ok (.iaload, 1) := by decide +kernel
theorem dX10_goes_16 : decode cX10_goes 16 = .ok (.iconst (-1), 1) := by decide +kernel
theorem dX10_goes_17 : decode cX10_goes 17 = .ok (.if_icmp .eq 4, 3) := by decide +kernel
theorem dX10_goes_20 : decode cX10_goes 20 = .ok (.return_, 1) := by decide +kernel
theorem dX10_goes_21 : decode cX10_goes 21 = .ok (.aload_n 0, 1) := by decide +kernel
theorem dX10_goes_22 : decode cX10_goes 22 = .ok (.getfield 7, 3) := by decide +kernel
theorem dX10_goes_25 : decode cX10_goes 25 = .ok (.iload 4, 2) := by decide +kernel
theorem dX10_goes_27 : decode cX10_goes 27 = .ok (.iconst 0, 1) := by decide +kernel
theorem dX10_goes_28 : decode cX10_goes 28 = .ok (.iadd, 1) := by decide +kernel
theorem dX10_goes_29 : decode cX10_goes 29 = .ok (.iaload, 1) := by decide +kernel
theorem dX10_goes_30 : decode cX10_goes 30 = .ok (.istore 5, 2) := by decide +kernel
theorem dX10_goes_32 : decode cX10_goes 32 = .ok (.aload_n 0, 1) := by decide +kernel
theorem dX10_goes_33 : decode cX10_goes 33 = .ok (.getfield 7, 3) := by decide +kernel
theorem dX10_goes_36 : decode cX10_goes 36 = .ok (.iload 4, 2) := by decide +kernel
theorem dX10_goes_38 : decode cX10_goes 38 = .ok (.iconst 3, 1) := by decide +kernel
theorem dX10_goes_39 : decode cX10_goes 39 = .ok (.iadd, 1) := by decide +kernel
theorem dX10_goes_40 : decode cX10_goes 40 = .ok (.iaload, 1) := by decide +kernel
theorem dX10_goes_41 : decode cX10_goes 41 = .ok (.istore 6, 2) := by decide +kernel
theorem dX10_goes_43 : decode cX10_goes 43 = .ok (.iload_n 3, 1) := by decide +kernel
theorem dX10_goes_44 : decode cX10_goes 44 = .ok (.ifCond .eq 13, 3) := by decide +kernel
theorem dX10_goes_47 : decode cX10_goes 47 = .ok (.aload_n 0, 1) := by decide +kernel
theorem dX10_goes_48 : decode cX10_goes 48 = .ok (.getfield 7, 3) := by decide +kernel
theorem dX10_goes_51 : decode cX10_goes 51 = .ok (.iload_n 1, 1) := by decide +kernel
theorem dX10_goes_52 : decode cX10_goes 52 = .ok (.bipush 15, 2) := by decide +kernel
theorem dX10_goes_54 : decode cX10_goes 54 = .ok (.iadd, 1) := by decide +kernel
theorem dX10_goes_55 : decode cX10_goes 55 = .ok (.iconst 0, 1) := by decide +kernel
theorem dX10_goes_56 : decode cX10_goes 56 = .ok (.iastore, 1) := by decide +kernel
theorem dX10_goes_57 : decode cX10_goes 57 = .ok (.iload 5, 2) := by decide +kernel
theorem dX10_goes_59 : decode cX10_goes 59 = .ok (.iconst 4, 1) := by decide +kernel
theorem dX10_goes_60 : decode cX10_goes 60 = .ok (.if_icmp .ne 16, 3) := by decide +kernel
theorem dX10_goes_63 : decode cX10_goes 63 = .ok (.aload_n 0, 1) := by decide +kernel
theorem dX10_goes_64 : decode cX10_goes 64 = .ok (.getfield 7, 3) := by decide +kernel
theorem dX10_goes_67 : decode cX10_goes 67 = .ok (.iload_n 1, 1) := by decide +kernel
theorem dX10_goes_68 : decode cX10_goes 68 = .ok (.bipush 15, 2) := by decide +kernel
theorem dX10_goes_70 : decode cX10_goes 70 = .ok (.iadd, 1) := by decide +kernel
theorem dX10_goes_71 : decode cX10_goes 71 = .ok (.iconst 1, 1) := by decide +kernel
theorem dX10_goes_72 : decode cX10_goes 72 = .ok (.iastore, 1) := by decide +kernel
theorem dX10_goes_73 : decode cX10_goes 73 = .ok (.goto 134, 3) := by decide +kernel
theorem dX10_goes_76 : decode cX10_goes 76 = .ok (.iload 5, 2) := by decide +kernel
theorem dX10_goes_78 : decode cX10_goes 78 = .ok (.iconst 3, 1) := by decide +kernel
theorem dX10_goes_79 : decode cX10_goes 79 = .ok (.if_icmp .ne 121, 3) := by decide +kernel
theorem dX10_goes_82 : decode cX10_goes 82 = .ok (.aload_n 0, 1) := by decide +kernel
theorem dX10_goes_83 : decode cX10_goes 83 = .ok (.getfield 7, 3) := by decide +kernel
theorem dX10_goes_86 : decode cX10_goes 86 = .ok (.iload_n 1, 1) := by decide +kernel
theorem dX10_goes_87 : decode cX10_goes 87 = .ok (.bipush 11, 2) := by decide +kernel
theorem dX10_goes_89 : decode cX10_goes 89 = .ok (.iadd, 1) := by decide +kernel
theorem dX10_goes_90 : decode cX10_goes 90 = .ok (.iaload, 1) := by decide +kernel
theorem dX10_goes_91 : decode cX10_goes 91 = .ok (.iconst 2, 1) := by decide +kernel
theorem dX10_goes_92 : decode cX10_goes 92 = .ok (.if_icmp .ne 17, 3) := by decide +kernel
theorem dX10_goes_95 : decode cX10_goes 95 = .ok (.aload_n 0, 1) := by decide +kernel
theorem dX10_goes_96 : decode cX10_goes 96 = .ok (.getfield 7, 3) := by decide +kernel
theorem dX10_goes_99 : decode cX10_goes 99 = .ok (.iload_n 1, 1) := by decide +kernel
theorem dX10_goes_100 : decode cX10_goes 100 = .ok (.bipush 12, 2) := by decide +kernel
theorem dX10_goes_102 : decode cX10_goes 102 = .ok (.iadd, 1) := by decide +kernel
theorem dX10_goes_103 : decode cX10_goes 103 = .ok (.iaload, 1) := by decide +kernel
theorem dX10_goes_104 : decode cX10_goes 104 = .ok (.iload 6, 2) := by decide +kernel
theorem dX10_goes_106 : decode cX10_goes 106 = .ok (.if_icmp .eq 43, 3) := by decide +kernel
theorem dX10_goes_109 : decode cX10_goes 109 = .ok (.aload_n 0, 1) := by decide +kernel
theorem dX10_goes_110 : decode cX10_goes 110 = .ok (.getfield 7, 3) := by decide +kernel
theorem dX10_goes_113 : decode cX10_goes 113 = .ok (.iload_n 1, 1) := by decide +kernel
theorem dX10_goes_114 : decode cX10_goes 114 = .ok (.bipush 11, 2) := by decide +kernel
theorem dX10_goes_116 : decode cX10_goes 116 = .ok (.iadd, 1) := by decide +kernel
theorem dX10_goes_117 : decode cX10_goes 117 = .ok (.iaload, 1) := by decide +kernel
theorem dX10_goes_118 : decode cX10_goes 118 = .ok (.ifCond .ne 35, 3) := by decide +kernel
theorem dX10_goes_121 : decode cX10_goes 121 = .ok (.aload_n 0, 1) := by decide +kernel
theorem dX10_goes_122 : decode cX10_goes 122 = .ok (.getfield 7, 3) := by decide +kernel
theorem dX10_goes_125 : decode cX10_goes 125 = .ok (.iload_n 1, 1) := by decide +kernel
theorem dX10_goes_126 : decode cX10_goes 126 = .ok (.bipush 12, 2) := by decide +kernel
theorem dX10_goes_128 : decode cX10_goes 128 = .ok (.iadd, 1) := by decide +kernel
theorem dX10_goes_129 : decode cX10_goes 129 = .ok (.iaload, 1) := by decide +kernel
theorem dX10_goes_130 : decode cX10_goes 130 = .ok (.iload 6, 2) := by decide +kernel
theorem dX10_goes_132 : decode cX10_goes 132 = .ok (.if_icmp .ne 21, 3) := by decide +kernel
theorem dX10_goes_135 : decode cX10_goes 135 = .ok (.aload_n 0, 1) := by decide +kernel
theorem dX10_goes_136 : decode cX10_goes 136 = .ok (.getfield 7, 3) := by decide +kernel
theorem dX10_goes_139 : decode cX10_goes 139 = .ok (.iload_n 1, 1) := by decide +kernel
theorem dX10_goes_140 : decode cX10_goes 140 = .ok (.bipush 13, 2) := by decide +kernel
theorem dX10_goes_142 : decode cX10_goes 142 = .ok (.iadd, 1) := by decide +kernel
theorem dX10_goes_143 : decode cX10_goes 143 = .ok (.iaload, 1) := by decide +kernel
theorem dX10_goes_144 : decode cX10_goes 144 = .ok (.iload 6, 2) := by decide +kernel
theorem dX10_goes_146 : decode cX10_goes 146 = .ok (.if_icmp .ne 7, 3) := by decide +kernel
theorem dX10_goes_149 : decode cX10_goes 149 = .ok (.iconst 1, 1) := by decide +kernel
theorem dX10_goes_150 : decode cX10_goes 150 = .ok (.goto 4, 3) := by decide +kernel
theorem dX10_goes_153 : decode cX10_goes 153 = .ok (.iconst 0, 1) := by decide +kernel
theorem dX10_goes_154 : decode cX10_goes 154 = .ok (.istore 7, 2) := by decide +kernel
theorem dX10_goes_156 : decode cX10_goes 156 = .ok (.aload_n 0, 1) := by decide +kernel
theorem dX10_goes_157 : decode cX10_goes 157 = .ok (.getfield 7, 3) := by decide +kernel
theorem dX10_goes_160 : decode cX10_goes 160 = .ok (.iload_n 1, 1) := by decide +kernel
theorem dX10_goes_161 : decode cX10_goes 161 = .ok (.bipush 11, 2) := by decide +kernel
theorem dX10_goes_163 : decode cX10_goes 163 = .ok (.iadd, 1) := by decide +kernel
theorem dX10_goes_164 : decode cX10_goes 164 = .ok (.iaload, 1) := by decide +kernel
theorem dX10_goes_165 : decode cX10_goes 165 = .ok (.iconst 1, 1) := by decide +kernel
theorem dX10_goes_166 : decode cX10_goes 166 = .ok (.if_icmp .ne 12, 3) := by decide +kernel
theorem dX10_goes_169 : decode cX10_goes 169 = .ok (.aload_n 0, 1) := by decide +kernel
theorem dX10_goes_170 : decode cX10_goes 170 = .ok (.iload_n 1, 1) := by decide +kernel
theorem dX10_goes_171 : decode cX10_goes 171 = .ok (.iload_n 2, 1) := by decide +kernel
theorem dX10_goes_172 : decode cX10_goes 172 = .ok (.invokevirtual 48, 3) := by decide +kernel
theorem dX10_goes_175 : decode cX10_goes 175 = .ok (.goto 22, 3) := by decide +kernel
theorem dX10_goes_178 : decode cX10_goes 178 = .ok (.aload_n 0, 1) := by decide +kernel
theorem dX10_goes_179 : decode cX10_goes 179 = .ok (.getfield 7, 3) := by decide +kernel
theorem dX10_goes_182 : decode cX10_goes 182 = .ok (.iload_n 1, 1) := by decide +kernel
theorem dX10_goes_183 : decode cX10_goes 183 = .ok (.bipush 15, 2) := by decide +kernel
theorem dX10_goes_185 : decode cX10_goes 185 = .ok (.iadd, 1) := by decide +kernel
theorem dX10_goes_186 : decode cX10_goes 186 = .ok (.iload 7, 2) := by decide +kernel
theorem dX10_goes_188 : decode cX10_goes 188 = .ok (.ifCond .eq 7, 3) := by decide +kernel
theorem dX10_goes_191 : decode cX10_goes 191 = .ok (.iconst 0, 1) := by decide +kernel
theorem dX10_goes_192 : decode cX10_goes 192 = .ok (.goto 4, 3) := by decide +kernel
theorem dX10_goes_195 : decode cX10_goes 195 = .ok (.iconst 1, 1) := by decide +kernel
theorem dX10_goes_196 : decode cX10_goes 196 = .ok (.iastore, 1) := by decide +kernel
theorem dX10_goes_197 : decode cX10_goes 197 = .ok (.goto 10, 3) := by decide +kernel
theorem dX10_goes_200 : decode cX10_goes 200 = .ok (.aload_n 0, 1) := by decide +kernel
theorem dX10_goes_201 : decode cX10_goes 201 = .ok (.iload_n 1, 1) := by decide +kernel
theorem dX10_goes_202 : decode cX10_goes 202 = .ok (.iload_n 2, 1) := by decide +kernel
theorem dX10_goes_203 : decode cX10_goes 203 = .ok (.iload_n 3, 1) := by decide +kernel
theorem dX10_goes_204 : decode cX10_goes 204 = .ok (.invokevirtual 52, 3) := by decide +kernel
theorem dX10_goes_207 : decode cX10_goes 207 = .ok (.return_, 1) := by decide +kernel
theorem dX10_owns_0 : decode cX10_owns 0 = .ok (.aload_n 0, 1) := by decide +kernel
theorem dX10_owns_1 : decode cX10_owns 1 = .ok (.getfield 7, 3) := by decide +kernel
theorem dX10_owns_4 : decode cX10_owns 4 = .ok (.iload_n 1, 1) := by decide +kernel
theorem dX10_owns_5 : decode cX10_owns 5 = .ok (.bipush 13, 2) := by decide +kernel
theorem dX10_owns_7 : decode cX10_owns 7 = .ok (.iadd, 1) := by decide +kernel
theorem dX10_owns_8 : decode cX10_owns 8 = .ok (.iload_n 2, 1) := by decide +kernel
theorem dX10_owns_9 : decode cX10_owns 9 = .ok (.iastore, 1) := by decide +kernel
theorem dX10_owns_10 : decode cX10_owns 10 = .ok (.aload_n 0, 1) := by decide +kernel
theorem dX10_owns_11 : decode cX10_owns 11 = .ok (.getfield 7, 3) := by decide +kernel
theorem dX10_owns_14 : decode cX10_owns 14 = .ok (.iload_n 1, 1) := by decide +kernel
theorem dX10_owns_15 : decode cX10_owns 15 = .ok (.bipush 14, 2) := by decide +kernel
theorem dX10_owns_17 : decode cX10_owns 17 = .ok (.iadd, 1) := by decide +kernel
theorem dX10_owns_18 : decode cX10_owns 18 = .ok (.iload_n 3, 1) := by decide +kernel
theorem dX10_owns_19 : decode cX10_owns 19 = .ok (.iastore, 1) := by decide +kernel
theorem dX10_owns_20 : decode cX10_owns 20 = .ok (.aload_n 0, 1) := by decide +kernel
theorem dX10_owns_21 : decode cX10_owns 21 = .ok (.getfield 7, 3) := by decide +kernel
theorem dX10_owns_24 : decode cX10_owns 24 = .ok (.iload_n 1, 1) := by decide +kernel
theorem dX10_owns_25 : decode cX10_owns 25 = .ok (.bipush 20, 2) := by decide +kernel
theorem dX10_owns_27 : decode cX10_owns 27 = .ok (.iadd, 1) := by decide +kernel
theorem dX10_owns_28 : decode cX10_owns 28 = .ok (.iload_n 2, 1) := by decide +kernel
theorem dX10_owns_29 : decode cX10_owns 29 = .ok (.iadd, 1) := by decide +kernel
theorem dX10_owns_30 : decode cX10_owns 30 = .ok (.iaload, 1) := by decide +kernel
theorem dX10_owns_31 : decode cX10_owns 31 = .ok (.ifCond .ne 15, 3) := by decide +kernel
theorem dX10_owns_34 : decode cX10_owns 34 = .ok (.aload_n 0, 1) := by decide +kernel
theorem dX10_owns_35 : decode cX10_owns 35 = .ok (.getfield 7, 3) := by decide +kernel
theorem dX10_owns_38 : decode cX10_owns 38 = .ok (.iload_n 1, 1) := by decide +kernel
theorem dX10_owns_39 : decode cX10_owns 39 = .ok (.bipush 20, 2) := by decide +kernel
theorem dX10_owns_41 : decode cX10_owns 41 = .ok (.iadd, 1) := by decide +kernel
theorem dX10_owns_42 : decode cX10_owns 42 = .ok (.iload_n 2, 1) := by decide +kernel
theorem dX10_owns_43 : decode cX10_owns 43 = .ok (.iadd, 1) := by decide +kernel
theorem dX10_owns_44 : decode cX10_owns 44 = .ok (.iload_n 3, 1) := by decide +kernel
theorem dX10_owns_45 : decode cX10_owns 45 = .ok (.iastore, 1) := by decide +kernel
theorem dX10_owns_46 : decode cX10_owns 46 = .ok (.return_, 1) := by decide +kernel
theorem dX10_startsChain_0 : decode cX10_startsChain 0 = .ok (.aload_n 0, 1) := by decide +kernel
theorem dX10_startsChain_1 : decode cX10_startsChain 1 = .ok (.getfield 7, 3) := by decide +kernel
theorem dX10_startsChain_4 : decode cX10_startsChain 4 = .ok (.iload_n 1, 1) := by decide +kernel
theorem dX10_startsChain_5 : decode cX10_startsChain 5 = .ok (.bipush 19, 2) := by decide +kernel
theorem dX10_startsChain_7 : decode cX10_startsChain 7 = .ok (.iadd, 1) := by decide +kernel
theorem dX10_startsChain_8 : decode cX10_startsChain 8 = .ok (.iaload, 1) := by decide +kernel
theorem dX10_startsChain_9 : decode cX10_startsChain 9 = .ok (.iconst (-1), 1) := by decide +kernel
theorem dX10_startsChain_10 : decode cX10_startsChain 10 = .ok (.if_icmp .eq 7, 3) := by decide +kernel
theorem dX10_startsChain_13 : decode cX10_startsChain 13 = .ok (.iconst 1, 1) := by decide +kernel
theorem dX10_startsChain_14 : decode cX10_startsChain 14 = .ok (.goto 4, 3) := by decide +kernel
theorem dX10_startsChain_17 : decode cX10_startsChain 17 = .ok (.iconst 0, 1) := by decide +kernel
theorem dX10_startsChain_18 : decode cX10_startsChain 18 = .ok (.istore_n 2, 1) := by decide +kernel
theorem dX10_startsChain_19 : decode cX10_startsChain 19 = .ok (.iload_n 2, 1) := by decide +kernel
theorem dX10_startsChain_20 : decode cX10_startsChain 20 = .ok (.ifCond .eq 15, 3) := by decide +kernel
theorem dX10_startsChain_23 : decode cX10_startsChain 23 = .ok (.aload_n 0, 1) := by decide +kernel
theorem dX10_startsChain_24 : decode cX10_startsChain 24 = .ok (.getfield 7, 3) := by decide +kernel
theorem dX10_startsChain_27 : decode cX10_startsChain 27 = .ok (.iload_n 1, 1) := by decide +kernel
theorem dX10_startsChain_28 : decode cX10_startsChain 28 = .ok (.bipush 19, 2) := by decide +kernel
theorem dX10_startsChain_30 : decode cX10_startsChain 30 = .ok (.iadd, 1) := by decide +kernel
theorem dX10_startsChain_31 : decode cX10_startsChain 31 = .ok (.iaload, 1) := by decide +kernel
theorem dX10_startsChain_32 : decode cX10_startsChain 32 = .ok (.goto 11, 3) := by decide +kernel
theorem dX10_startsChain_35 : decode cX10_startsChain 35 = .ok (.aload_n 0, 1) := by decide +kernel
theorem dX10_startsChain_36 : decode cX10_startsChain 36 = .ok (.getfield 7, 3) := by decide +kernel
theorem dX10_startsChain_39 : decode cX10_startsChain 39 = .ok (.iload_n 1, 1) := by decide +kernel
theorem dX10_startsChain_40 : decode cX10_startsChain 40 = .ok (.iconst 2, 1) := by decide +kernel
theorem dX10_startsChain_41 : decode cX10_startsChain 41 = .ok (.iadd, 1) := by decide +kernel
theorem dX10_startsChain_42 : decode cX10_startsChain 42 = .ok (.iaload, 1) := by decide +kernel
theorem dX10_startsChain_43 : decode cX10_startsChain 43 = .ok (.istore_n 3, 1) := by decide +kernel
theorem dX10_startsChain_44 : decode cX10_startsChain 44 = .ok (.aload_n 0, 1) := by decide +kernel
theorem dX10_startsChain_45 : decode cX10_startsChain 45 = .ok (.getfield 7, 3) := by decide +kernel
theorem dX10_startsChain_48 : decode cX10_startsChain 48 = .ok (.iload_n 1, 1) := by decide +kernel
theorem dX10_startsChain_49 : decode cX10_startsChain 49 = .ok (.bipush 11, 2) := by decide +kernel
theorem dX10_startsChain_51 : decode cX10_startsChain 51 = .ok (.iadd, 1) := by decide +kernel
theorem dX10_startsChain_52 : decode cX10_startsChain 52 = .ok (.iload_n 2, 1) := by decide +kernel
theorem dX10_startsChain_53 : decode cX10_startsChain 53 = .ok (.ifCond .ne 19, 3) := by decide +kernel
theorem dX10_startsChain_56 : decode cX10_startsChain 56 = .ok (.aload_n 0, 1) := by decide +kernel
theorem dX10_startsChain_57 : decode cX10_startsChain 57 = .ok (.getfield 7, 3) := by decide +kernel
theorem dX10_startsChain_60 : decode cX10_startsChain 60 = .ok (.iload_n 1, 1) := by decide +kernel
theorem dX10_startsChain_61 : decode cX10_startsChain 61 = .ok (.iconst 5, 1) := by decide +kernel
theorem dX10_startsChain_62 : decode cX10_startsChain 62 = .ok (.iadd, 1) := by decide +kernel
theorem dX10_startsChain_63 : decode cX10_startsChain 63 = .ok (.iaload, 1) := by decide +kernel
theorem dX10_startsChain_64 : decode cX10_startsChain 64 = .ok (.iconst 1, 1) := by decide +kernel
theorem dX10_startsChain_65 : decode cX10_startsChain 65 = .ok (.if_icmp .ne 7, 3) := by decide +kernel
theorem dX10_startsChain_68 : decode cX10_startsChain 68 = .ok (.iconst 1, 1) := by decide +kernel
theorem dX10_startsChain_69 : decode cX10_startsChain 69 = .ok (.goto 4, 3) := by decide +kernel
theorem dX10_startsChain_72 : decode cX10_startsChain 72 = .ok (.iconst 0, 1) := by decide +kernel
theorem dX10_startsChain_73 : decode cX10_startsChain 73 = .ok (.iastore, 1) := by decide +kernel
theorem dX10_startsChain_74 : decode cX10_startsChain 74 = .ok (.aload_n 0, 1) := by decide +kernel
theorem dX10_startsChain_75 : decode cX10_startsChain 75 = .ok (.getfield 7, 3) := by decide +kernel
theorem dX10_startsChain_78 : decode cX10_startsChain 78 = .ok (.iload_n 1, 1) := by decide +kernel
theorem dX10_startsChain_79 : decode cX10_startsChain 79 = .ok (.bipush 12, 2) := by decide +kernel
theorem dX10_startsChain_81 : decode cX10_startsChain 81 = .ok (.iadd, 1) := by decide +kernel
theorem dX10_startsChain_82 : decode cX10_startsChain 82 = .ok (.aload_n 0, 1) := by decide +kernel
theorem dX10_startsChain_83 : decode cX10_startsChain 83 = .ok (.getfield 7, 3) := by decide +kernel
theorem dX10_startsChain_86 : decode cX10_startsChain 86 = .ok (.iload_n 1, 1) := by decide +kernel
theorem dX10_startsChain_87 : decode cX10_startsChain 87 = .ok (.bipush 11, 2) := by decide +kernel
theorem dX10_startsChain_89 : decode cX10_startsChain 89 = .ok (.iadd, 1) := by decide +kernel
theorem dX10_startsChain_90 : decode cX10_startsChain 90 = .ok (.iaload, 1) := by decide +kernel
theorem dX10_startsChain_91 : decode cX10_startsChain 91 = .ok (.iconst 1, 1) := by decide +kernel
theorem dX10_startsChain_92 : decode cX10_startsChain 92 = .ok (.if_icmp .ne 7, 3) := by decide +kernel
theorem dX10_startsChain_95 : decode cX10_startsChain 95 = .ok (.iconst (-1), 1) := by decide +kernel
theorem dX10_startsChain_96 : decode cX10_startsChain 96 = .ok (.goto 4, 3) := by decide +kernel
theorem dX10_startsChain_99 : decode cX10_startsChain 99 = .ok (.iload_n 3, 1) := by decide +kernel
theorem dX10_startsChain_100 : decode cX10_startsChain 100 = .ok (.iastore, 1) := by decide +kernel
theorem dX10_startsChain_101 : decode cX10_startsChain 101 = .ok (.aload_n 0, 1) := by decide +kernel
theorem dX10_startsChain_102 : decode cX10_startsChain 102 = .ok (.getfield 7, 3) := by decide +kernel
theorem dX10_startsChain_105 : decode cX10_startsChain 105 = .ok (.iload_n 1, 1) := by decide +kernel
theorem dX10_startsChain_106 : decode cX10_startsChain 106 = .ok (.bipush 15, 2) := by decide +kernel
theorem dX10_startsChain_108 : decode cX10_startsChain 108 = .ok (.iadd, 1) := by decide +kernel
theorem dX10_startsChain_109 : decode cX10_startsChain 109 = .ok (.iconst 0, 1) := by decide +kernel
theorem dX10_startsChain_110 : decode cX10_startsChain 110 = .ok (.iastore, 1) := by decide +kernel
theorem dX10_startsChain_111 : decode cX10_startsChain 111 = .ok (.aload_n 0, 1) := by decide +kernel
theorem dX10_startsChain_112 : decode cX10_startsChain 112 = .ok (.getfield 7, 3) := by decide +kernel
theorem dX10_startsChain_115 : decode cX10_startsChain 115 = .ok (.iload_n 1, 1) := by decide +kernel
theorem dX10_startsChain_116 : decode cX10_startsChain 116 = .ok (.bipush 16, 2) := by decide +kernel
theorem dX10_startsChain_118 : decode cX10_startsChain 118 = .ok (.iadd, 1) := by decide +kernel
theorem dX10_startsChain_119 : decode cX10_startsChain 119 = .ok (.iconst (-1), 1) := by decide +kernel
theorem dX10_startsChain_120 : decode cX10_startsChain 120 = .ok (.iastore, 1) := by decide +kernel
theorem dX10_startsChain_121 : decode cX10_startsChain 121 = .ok (.aload_n 0, 1) := by decide +kernel
theorem dX10_startsChain_122 : decode cX10_startsChain 122 = .ok (.getfield 7, 3) := by decide +kernel
theorem dX10_startsChain_125 : decode cX10_startsChain 125 = .ok (.iload_n 1, 1) := by decide +kernel
theorem dX10_startsChain_126 : decode cX10_startsChain 126 = .ok (.bipush 17, 2) := by decide +kernel
theorem dX10_startsChain_128 : decode cX10_startsChain 128 = .ok (.iadd, 1) := by decide +kernel
theorem dX10_startsChain_129 : decode cX10_startsChain 129 = .ok (.iconst 0, 1) := by decide +kernel
theorem dX10_startsChain_130 : decode cX10_startsChain 130 = .ok (.iastore, 1) := by decide +kernel
theorem dX10_startsChain_131 : decode cX10_startsChain 131 = .ok (.aload_n 0, 1) := by decide +kernel
theorem dX10_startsChain_132 : decode cX10_startsChain 132 = .ok (.getfield 7, 3) := by decide +kernel
theorem dX10_startsChain_135 : decode cX10_startsChain 135 = .ok (.iload_n 1, 1) := by decide +kernel
theorem dX10_startsChain_136 : decode cX10_startsChain 136 = .ok (.bipush 13, 2) := by decide +kernel
theorem dX10_startsChain_138 : decode cX10_startsChain 138 = .ok (.iadd, 1) := by decide +kernel
theorem dX10_startsChain_139 : decode cX10_startsChain 139 = .ok (.iload_n 3, 1) := by decide +kernel
theorem dX10_startsChain_140 : decode cX10_startsChain 140 = .ok (.iastore, 1) := by decide +kernel
theorem dX10_startsChain_141 : decode cX10_startsChain 141 = .ok (.aload_n 0, 1) := by decide +kernel
theorem dX10_startsChain_142 : decode cX10_startsChain 142 = .ok (.getfield 7, 3) := by decide +kernel
theorem dX10_startsChain_145 : decode cX10_startsChain 145 = .ok (.iload_n 1, 1) := by decide +kernel
theorem dX10_startsChain_146 : decode cX10_startsChain 146 = .ok (.bipush 20, 2) := by decide +kernel
theorem dX10_startsChain_148 : decode cX10_startsChain 148 = .ok (.iadd, 1) := by decide +kernel
theorem dX10_startsChain_149 : decode cX10_startsChain 149 = .ok (.iload_n 3, 1) := by decide +kernel
theorem dX10_startsChain_150 : decode cX10_startsChain 150 = .ok (.iadd, 1) := by decide +kernel
theorem dX10_startsChain_151 : decode cX10_startsChain 151 = .ok (.aload_n 0, 1) := by decide +kernel
theorem dX10_startsChain_152 : decode cX10_startsChain 152 = .ok (.getfield 7, 3) := by decide +kernel
theorem dX10_startsChain_155 : decode cX10_startsChain 155 = .ok (.iload_n 1, 1) := by decide +kernel
theorem dX10_startsChain_156 : decode cX10_startsChain 156 = .ok (.bipush 20, 2) := by decide +kernel
theorem dX10_startsChain_158 : decode cX10_startsChain 158 = .ok (.iadd, 1) := by decide +kernel
theorem dX10_startsChain_159 : decode cX10_startsChain 159 = .ok (.iload_n 3, 1) := by decide +kernel
theorem dX10_startsChain_160 : decode cX10_startsChain 160 = .ok (.iadd, 1) := by decide +kernel
theorem dX10_startsChain_161 : decode cX10_startsChain 161 = .ok (.iaload, 1) := by decide +kernel
theorem dX10_startsChain_162 : decode cX10_startsChain 162 = .ok (.ifCond .ne 7, 3) := by decide +kernel
theorem dX10_startsChain_165 : decode cX10_startsChain 165 = .ok (.iconst 1, 1) := by decide +kernel
theorem dX10_startsChain_166 : decode cX10_startsChain 166 = .ok (.goto 14, 3) := by decide +kernel
theorem dX10_startsChain_169 : decode cX10_startsChain 169 = .ok (.aload_n 0, 1) := by decide +kernel
theorem dX10_startsChain_170 : decode cX10_startsChain 170 = .ok (.getfield 7, 3) := by decide +kernel
theorem dX10_startsChain_173 : decode cX10_startsChain 173 = .ok (.iload_n 1, 1) := by decide +kernel
theorem dX10_startsChain_174 : decode cX10_startsChain 174 = .ok (.bipush 20, 2) := by decide +kernel
theorem dX10_startsChain_176 : decode cX10_startsChain 176 = .ok (.iadd, 1) := by decide +kernel
theorem dX10_startsChain_177 : decode cX10_startsChain 177 = .ok (.iload_n 3, 1) := by decide +kernel
theorem dX10_startsChain_178 : decode cX10_startsChain 178 = .ok (.iadd, 1) := by decide +kernel
theorem dX10_startsChain_179 : decode cX10_startsChain 179 = .ok (.iaload, 1) := by decide +kernel
theorem dX10_startsChain_180 : decode cX10_startsChain 180 = .ok (.iastore, 1) := by decide +kernel
theorem dX10_startsChain_181 : decode cX10_startsChain 181 = .ok (.aload_n 0, 1) := by decide +kernel
theorem dX10_startsChain_182 : decode cX10_startsChain 182 = .ok (.getfield 7, 3) := by decide +kernel
theorem dX10_startsChain_185 : decode cX10_startsChain 185 = .ok (.iload_n 1, 1) := by decide +kernel
theorem dX10_startsChain_186 : decode cX10_startsChain 186 = .ok (.bipush 14, 2) := by decide +kernel
