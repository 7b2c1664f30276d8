theorem dX10_sorts_110 : decode cX10_sorts 110 = .ok (.iload 4, 2) := by decide +kernel
theorem dX10_sorts_112 : decode cX10_sorts 112 = .ok (.goto 5, 3) := by decide +kernel
theorem dX10_sorts_115 : decode cX10_sorts 115 = .ok (.bipush (-2), 2) := by decide +kernel
theorem dX10_sorts_117 : decode cX10_sorts 117 = .ok (.ireturn, 1) := by decide +kernel
theorem dX10_step_0 : decode cX10_step 0 = .ok (.aload_n 0, 1) := by decide +kernel
theorem dX10_step_1 : decode cX10_step 1 = .ok (.iload_n 1, 1) := by decide +kernel
theorem dX10_step_2 : decode cX10_step 2 = .ok (.iload_n 2, 1) := by decide +kernel
theorem dX10_step_3 : decode cX10_step 3 = .ok (.invokevirtual 186, 3) := by decide +kernel
theorem dX10_step_6 : decode cX10_step 6 = .ok (.ifCond .eq 32, 3) := by decide +kernel
theorem dX10_step_9 : decode cX10_step 9 = .ok (.iload_n 3, 1) := by decide +kernel
theorem dX10_step_10 : decode cX10_step 10 = .ok (.iconst 0, 1) := by decide +kernel
theorem dX10_step_11 : decode cX10_step 11 = .ok (.bipush 9, 2) := by decide +kernel
theorem dX10_step_13 : decode cX10_step 13 = .ok (.invokestatic 33, 3) := by decide +kernel
theorem dX10_step_16 : decode cX10_step 16 = .ok (.ifCond .eq 22, 3) := by decide +kernel
theorem dX10_step_19 : decode cX10_step 19 = .ok (.aload_n 0, 1) := by decide +kernel
theorem dX10_step_20 : decode cX10_step 20 = .ok (.getfield 7, 3) := by decide +kernel
theorem dX10_step_23 : decode cX10_step 23 = .ok (.iconst 0, 1) := by decide +kernel
theorem dX10_step_24 : decode cX10_step 24 = .ok (.iload_n 1, 1) := by decide +kernel
theorem dX10_step_25 : decode cX10_step 25 = .ok (.invokestatic 109, 3) := by decide +kernel
theorem dX10_step_28 : decode cX10_step 28 = .ok (.iload_n 2, 1) := by decide +kernel
theorem dX10_step_29 : decode cX10_step 29 = .ok (.invokestatic 37, 3) := by decide +kernel
theorem dX10_step_32 : decode cX10_step 32 = .ok (.iload_n 3, 1) := by decide +kernel
theorem dX10_step_33 : decode cX10_step 33 = .ok (.iadd, 1) := by decide +kernel
theorem dX10_step_34 : decode cX10_step 34 = .ok (.iaload, 1) := by decide +kernel
theorem dX10_step_35 : decode cX10_step 35 = .ok (.goto 5, 3) := by decide +kernel
theorem dX10_step_38 : decode cX10_step 38 = .ok (.bipush (-2), 2) := by decide +kernel
theorem dX10_step_40 : decode cX10_step 40 = .ok (.ireturn, 1) := by decide +kernel
theorem dX10_until_0 : decode cX10_until 0 = .ok (.aload_n 0, 1) := by decide +kernel
theorem dX10_until_1 : decode cX10_until 1 = .ok (.iload_n 1, 1) := by decide +kernel
theorem dX10_until_2 : decode cX10_until 2 = .ok (.iload_n 2, 1) := by decide +kernel
theorem dX10_until_3 : decode cX10_until 3 = .ok (.invokevirtual 143, 3) := by decide +kernel
theorem dX10_until_6 : decode cX10_until 6 = .ok (.ifCond .eq 7, 3) := by decide +kernel
theorem dX10_until_9 : decode cX10_until 9 = .ok (.iload_n 2, 1) := by decide +kernel
theorem dX10_until_10 : decode cX10_until 10 = .ok (.ifCond .ne 5, 3) := by decide +kernel
theorem dX10_until_13 : decode cX10_until 13 = .ok (.iconst (-1), 1) := by decide +kernel
theorem dX10_until_14 : decode cX10_until 14 = .ok (.ireturn, 1) := by decide +kernel
theorem dX10_until_15 : decode cX10_until 15 = .ok (.iconst 0, 1) := by decide +kernel
theorem dX10_until_16 : decode cX10_until 16 = .ok (.iload_n 1, 1) := by decide +kernel
theorem dX10_until_17 : decode cX10_until 17 = .ok (.invokestatic 109, 3) := by decide +kernel
theorem dX10_until_20 : decode cX10_until 20 = .ok (.istore_n 3, 1) := by decide +kernel
theorem dX10_until_21 : decode cX10_until 21 = .ok (.aload_n 0, 1) := by decide +kernel
theorem dX10_until_22 : decode cX10_until 22 = .ok (.getfield 7, 3) := by decide +kernel
theorem dX10_until_25 : decode cX10_until 25 = .ok (.iload_n 3, 1) := by decide +kernel
theorem dX10_until_26 : decode cX10_until 26 = .ok (.bipush 9, 2) := by decide +kernel
theorem dX10_until_28 : decode cX10_until 28 = .ok (.iadd, 1) := by decide +kernel
theorem dX10_until_29 : decode cX10_until 29 = .ok (.iaload, 1) := by decide +kernel
theorem dX10_until_30 : decode cX10_until 30 = .ok (.iconst (-1), 1) := by decide +kernel
theorem dX10_until_31 : decode cX10_until 31 = .ok (.if_icmp .eq 19, 3) := by decide +kernel
theorem dX10_until_34 : decode cX10_until 34 = .ok (.aload_n 0, 1) := by decide +kernel
theorem dX10_until_35 : decode cX10_until 35 = .ok (.getfield 7, 3) := by decide +kernel
theorem dX10_until_38 : decode cX10_until 38 = .ok (.iload_n 3, 1) := by decide +kernel
theorem dX10_until_39 : decode cX10_until 39 = .ok (.iload_n 2, 1) := by decide +kernel
theorem dX10_until_40 : decode cX10_until 40 = .ok (.invokestatic 56, 3) := by decide +kernel
theorem dX10_until_43 : decode cX10_until 43 = .ok (.iconst 0, 1) := by decide +kernel
theorem dX10_until_44 : decode cX10_until 44 = .ok (.iadd, 1) := by decide +kernel
theorem dX10_until_45 : decode cX10_until 45 = .ok (.iaload, 1) := by decide +kernel
theorem dX10_until_46 : decode cX10_until 46 = .ok (.iconst (-1), 1) := by decide +kernel
theorem dX10_until_47 : decode cX10_until 47 = .ok (.if_icmp .eq 5, 3) := by decide +kernel
theorem dX10_until_50 : decode cX10_until 50 = .ok (.iconst (-1), 1) := by decide +kernel
theorem dX10_until_51 : decode cX10_until 51 = .ok (.ireturn, 1) := by decide +kernel
theorem dX10_until_52 : decode cX10_until 52 = .ok (.aload_n 0, 1) := by decide +kernel
theorem dX10_until_53 : decode cX10_until 53 = .ok (.iload_n 3, 1) := by decide +kernel
theorem dX10_until_54 : decode cX10_until 54 = .ok (.invokevirtual 70, 3) := by decide +kernel
theorem dX10_until_57 : decode cX10_until 57 = .ok (.ifCond .eq 31, 3) := by decide +kernel
theorem dX10_until_60 : decode cX10_until 60 = .ok (.iload_n 2, 1) := by decide +kernel
theorem dX10_until_61 : decode cX10_until 61 = .ok (.aload_n 0, 1) := by decide +kernel
theorem dX10_until_62 : decode cX10_until 62 = .ok (.iload_n 3, 1) := by decide +kernel
theorem dX10_until_63 : decode cX10_until 63 = .ok (.invokevirtual 77, 3) := by decide +kernel
theorem dX10_until_66 : decode cX10_until 66 = .ok (.if_icmp .ge 22, 3) := by decide +kernel
theorem dX10_until_69 : decode cX10_until 69 = .ok (.aload_n 0, 1) := by decide +kernel
theorem dX10_until_70 : decode cX10_until 70 = .ok (.getfield 7, 3) := by decide +kernel
theorem dX10_until_73 : decode cX10_until 73 = .ok (.iload_n 3, 1) := by decide +kernel
theorem dX10_until_74 : decode cX10_until 74 = .ok (.bipush 9, 2) := by decide +kernel
theorem dX10_until_76 : decode cX10_until 76 = .ok (.iadd, 1) := by decide +kernel
theorem dX10_until_77 : decode cX10_until 77 = .ok (.iaload, 1) := by decide +kernel
theorem dX10_until_78 : decode cX10_until 78 = .ok (.aload_n 0, 1) := by decide +kernel
theorem dX10_until_79 : decode cX10_until 79 = .ok (.getfield 7, 3) := by decide +kernel
theorem dX10_until_82 : decode cX10_until 82 = .ok (.iconst 2, 1) := by decide +kernel
theorem dX10_until_83 : decode cX10_until 83 = .ok (.iaload, 1) := by decide +kernel
theorem dX10_until_84 : decode cX10_until 84 = .ok (.iadd, 1) := by decide +kernel
theorem dX10_until_85 : decode cX10_until 85 = .ok (.goto 4, 3) := by decide +kernel
theorem dX10_until_88 : decode cX10_until 88 = .ok (.iconst (-1), 1) := by decide +kernel
theorem dX10_until_89 : decode cX10_until 89 = .ok (.istore 4, 2) := by decide +kernel
theorem dX10_until_91 : decode cX10_until 91 = .ok (.iload_n 2, 1) := by decide +kernel
theorem dX10_until_92 : decode cX10_until 92 = .ok (.iconst 1, 1) := by decide +kernel
theorem dX10_until_93 : decode cX10_until 93 = .ok (.iadd, 1) := by decide +kernel
theorem dX10_until_94 : decode cX10_until 94 = .ok (.istore 5, 2) := by decide +kernel
theorem dX10_until_96 : decode cX10_until 96 = .ok (.iload 5, 2) := by decide +kernel
theorem dX10_until_98 : decode cX10_until 98 = .ok (.iconst 1, 1) := by decide +kernel
theorem dX10_until_99 : decode cX10_until 99 = .ok (.aload_n 0, 1) := by decide +kernel
theorem dX10_until_100 : decode cX10_until 100 = .ok (.getfield 7, 3) := by decide +kernel
theorem dX10_until_103 : decode cX10_until 103 = .ok (.iload_n 3, 1) := by decide +kernel
theorem dX10_until_104 : decode cX10_until 104 = .ok (.bipush 8, 2) := by decide +kernel
theorem dX10_until_106 : decode cX10_until 106 = .ok (.iadd, 1) := by decide +kernel
theorem dX10_until_107 : decode cX10_until 107 = .ok (.iaload, 1) := by decide +kernel
theorem dX10_until_108 : decode cX10_until 108 = .ok (.iadd, 1) := by decide +kernel
theorem dX10_until_109 : decode cX10_until 109 = .ok (.if_icmp .gt 60, 3) := by decide +kernel
theorem dX10_until_112 : decode cX10_until 112 = .ok (.aload_n 0, 1) := by decide +kernel
theorem dX10_until_113 : decode cX10_until 113 = .ok (.getfield 7, 3) := by decide +kernel
theorem dX10_until_116 : decode cX10_until 116 = .ok (.iload_n 3, 1) := by decide +kernel
theorem dX10_until_117 : decode cX10_until 117 = .ok (.iload 5, 2) := by decide +kernel
theorem dX10_until_119 : decode cX10_until 119 = .ok (.invokestatic 56, 3) := by decide +kernel
theorem dX10_until_122 : decode cX10_until 122 = .ok (.iconst 0, 1) := by decide +kernel
theorem dX10_until_123 : decode cX10_until 123 = .ok (.iadd, 1) := by decide +kernel
theorem dX10_until_124 : decode cX10_until 124 = .ok (.iaload, 1) := by decide +kernel
theorem dX10_until_125 : decode cX10_until 125 = .ok (.istore 6, 2) := by decide +kernel
theorem dX10_until_127 : decode cX10_until 127 = .ok (.iload 6, 2) := by decide +kernel
theorem dX10_until_129 : decode cX10_until 129 = .ok (.iconst (-1), 1) := by decide +kernel
theorem dX10_until_130 : decode cX10_until 130 = .ok (.if_icmp .eq 29, 3) := by decide +kernel
theorem dX10_until_133 : decode cX10_until 133 = .ok (.iload 6, 2) := by decide +kernel
theorem dX10_until_135 : decode cX10_until 135 = .ok (.aload_n 0, 1) := by decide +kernel
theorem dX10_until_136 : decode cX10_until 136 = .ok (.getfield 7, 3) := by decide +kernel
theorem dX10_until_139 : decode cX10_until 139 = .ok (.iconst 2, 1) := by decide +kernel
theorem dX10_until_140 : decode cX10_until 140 = .ok (.iaload, 1) := by decide +kernel
theorem dX10_until_141 : decode cX10_until 141 = .ok (.iadd, 1) := by decide +kernel
theorem dX10_until_142 : decode cX10_until 142 = .ok (.iload 4, 2) := by decide +kernel
theorem dX10_until_144 : decode cX10_until 144 = .ok (.if_icmp .le 15, 3) := by decide +kernel
theorem dX10_until_147 : decode cX10_until 147 = .ok (.iload 6, 2) := by decide +kernel
theorem dX10_until_149 : decode cX10_until 149 = .ok (.aload_n 0, 1) := by decide +kernel
theorem dX10_until_150 : decode cX10_until 150 = .ok (.getfield 7, 3) := by decide +kernel
theorem dX10_until_153 : decode cX10_until 153 = .ok (.iconst 2, 1) := by decide +kernel
theorem dX10_until_154 : decode cX10_until 154 = .ok (.iaload, 1) := by decide +kernel
theorem dX10_until_155 : decode cX10_until 155 = .ok (.iadd, 1) := by decide +kernel
theorem dX10_until_156 : decode cX10_until 156 = .ok (.goto 5, 3) := by decide +kernel
theorem dX10_until_159 : decode cX10_until 159 = .ok (.iload 4, 2) := by decide +kernel
theorem dX10_until_161 : decode cX10_until 161 = .ok (.istore 4, 2) := by decide +kernel
theorem dX10_until_163 : decode cX10_until 163 = .ok (.iinc 5 1, 3) := by decide +kernel
theorem dX10_until_166 : decode cX10_until 166 = .ok (.goto (-70), 3) := by decide +kernel
theorem dX10_until_169 : decode cX10_until 169 = .ok (.iload 4, 2) := by decide +kernel
theorem dX10_until_171 : decode cX10_until 171 = .ok (.ireturn, 1) := by decide +kernel
theorem dX10_why_0 : decode cX10_why 0 = .ok (.aload_n 0, 1) := by decide +kernel
theorem dX10_why_1 : decode cX10_why 1 = .ok (.iload_n 1, 1) := by decide +kernel
theorem dX10_why_2 : decode cX10_why 2 = .ok (.invokevirtual 116, 3) := by decide +kernel
theorem dX10_why_5 : decode cX10_why 5 = .ok (.ifCond .eq 35, 3) := by decide +kernel
theorem dX10_why_8 : decode cX10_why 8 = .ok (.aload_n 0, 1) := by decide +kernel
theorem dX10_why_9 : decode cX10_why 9 = .ok (.iconst 0, 1) := by decide +kernel
theorem dX10_why_10 : decode cX10_why 10 = .ok (.iload_n 1, 1) := by decide +kernel
theorem dX10_why_11 : decode cX10_why 11 = .ok (.invokestatic 109, 3) := by decide +kernel
theorem dX10_why_14 : decode cX10_why 14 = .ok (.iload_n 2, 1) := by decide +kernel
theorem dX10_why_15 : decode cX10_why 15 = .ok (.invokevirtual 140, 3) := by decide +kernel
theorem dX10_why_18 : decode cX10_why 18 = .ok (.ifCond .eq 22, 3) := by decide +kernel
theorem dX10_why_21 : decode cX10_why 21 = .ok (.iload_n 3, 1) := by decide +kernel
theorem dX10_why_22 : decode cX10_why 22 = .ok (.iconst 0, 1) := by decide +kernel
theorem dX10_why_23 : decode cX10_why 23 = .ok (.iconst 2, 1) := by decide +kernel
theorem dX10_why_24 : decode cX10_why 24 = .ok (.invokestatic 33, 3) := by decide +kernel
theorem dX10_why_27 : decode cX10_why 27 = .ok (.ifCond .eq 13, 3) := by decide +kernel
theorem dX10_why_30 : decode cX10_why 30 = .ok (.iload 4, 2) := by decide +kernel
theorem dX10_why_32 : decode cX10_why 32 = .ok (.iconst 0, 1) := by decide +kernel
theorem dX10_why_33 : decode cX10_why 33 = .ok (.iconst 1, 1) := by decide +kernel
theorem dX10_why_34 : decode cX10_why 34 = .ok (.invokestatic 33, 3) := by decide +kernel
theorem dX10_why_37 : decode cX10_why 37 = .ok (.ifCond .ne 6, 3) := by decide +kernel
theorem dX10_why_40 : decode cX10_why 40 = .ok (.bipush (-2), 2) := by decide +kernel
theorem dX10_why_42 : decode cX10_why 42 = .ok (.ireturn, 1) := by decide +kernel
theorem dX10_why_43 : decode cX10_why 43 = .ok (.iconst 0, 1) := by decide +kernel
theorem dX10_why_44 : decode cX10_why 44 = .ok (.iload_n 1, 1) := by decide +kernel
theorem dX10_why_45 : decode cX10_why 45 = .ok (.invokestatic 109, 3) := by decide +kernel
theorem dX10_why_48 : decode cX10_why 48 = .ok (.istore 5, 2) := by decide +kernel
theorem dX10_why_50 : decode cX10_why 50 = .ok (.aload_n 0, 1) := by decide +kernel
theorem dX10_why_51 : decode cX10_why 51 = .ok (.iconst 0, 1) := by decide +kernel
theorem dX10_why_52 : decode cX10_why 52 = .ok (.iload 5, 2) := by decide +kernel
theorem dX10_why_54 : decode cX10_why 54 = .ok (.iload_n 2, 1) := by decide +kernel
theorem dX10_why_55 : decode cX10_why 55 = .ok (.invokevirtual 81, 3) := by decide +kernel
theorem dX10_why_58 : decode cX10_why 58 = .ok (.istore 6, 2) := by decide +kernel
theorem dX10_why_60 : decode cX10_why 60 = .ok (.iload 6, 2) := by decide +kernel
theorem dX10_why_62 : decode cX10_why 62 = .ok (.ifCond .ne 5, 3) := by decide +kernel
theorem dX10_why_65 : decode cX10_why 65 = .ok (.iconst 0, 1) := by decide +kernel
theorem dX10_why_66 : decode cX10_why 66 = .ok (.ireturn, 1) := by decide +kernel
theorem dX10_why_67 : decode cX10_why 67 = .ok (.iload_n 3, 1) := by decide +kernel
theorem dX10_why_68 : decode cX10_why 68 = .ok (.ifCond .ne 15, 3) := by decide +kernel
theorem dX10_why_71 : decode cX10_why 71 = .ok (.iload 4, 2) := by decide +kernel
theorem dX10_why_73 : decode cX10_why 73 = .ok (.ifCond .ne 8, 3) := by decide +kernel
theorem dX10_why_76 : decode cX10_why 76 = .ok (.iload 6, 2) := by decide +kernel
theorem dX10_why_78 : decode cX10_why 78 = .ok (.goto 4, 3) := by decide +kernel
theorem dX10_why_81 : decode cX10_why 81 = .ok (.iconst (-1), 1) := by decide +kernel
theorem dX10_why_82 : decode cX10_why 82 = .ok (.ireturn, 1) := by decide +kernel
theorem dX10_why_83 : decode cX10_why 83 = .ok (.aload_n 0, 1) := by decide +kernel
theorem dX10_why_84 : decode cX10_why 84 = .ok (.iload 5, 2) := by decide +kernel
theorem dX10_why_86 : decode cX10_why 86 = .ok (.iload_n 2, 1) := by decide +kernel
theorem dX10_why_87 : decode cX10_why 87 = .ok (.iload 6, 2) := by decide +kernel
theorem dX10_why_89 : decode cX10_why 89 = .ok (.invokevirtual 192, 3) := by decide +kernel
theorem dX10_why_92 : decode cX10_why 92 = .ok (.istore 7, 2) := by decide +kernel
theorem dX10_why_94 : decode cX10_why 94 = .ok (.iload 7, 2) := by decide +kernel
theorem dX10_why_96 : decode cX10_why 96 = .ok (.ifCond .ne 5, 3) := by decide +kernel
theorem dX10_why_99 : decode cX10_why 99 = .ok (.iconst 0, 1) := by decide +kernel
theorem dX10_why_100 : decode cX10_why 100 = .ok (.ireturn, 1) := by decide +kernel
theorem dX10_why_101 : decode cX10_why 101 = .ok (.iload_n 3, 1) := by decide +kernel
theorem dX10_why_102 : decode cX10_why 102 = .ok (.iconst 2, 1) := by decide +kernel
theorem dX10_why_103 : decode cX10_why 103 = .ok (.if_icmp .ne 43, 3) := by decide +kernel
theorem dX10_why_106 : decode cX10_why 106 = .ok (.iload 7, 2) := by decide +kernel
theorem dX10_why_108 : decode cX10_why 108 = .ok (.bipush 11, 2) := by decide +kernel
theorem dX10_why_110 : decode cX10_why 110 = .ok (.if_icmp .eq 7, 3) := by decide +kernel
theorem dX10_why_113 : decode cX10_why 113 = .ok (.iconst 0, 1) := by decide +kernel
theorem dX10_why_114 : decode cX10_why 114 = .ok (.goto 31, 3) := by decide +kernel
theorem dX10_why_117 : decode cX10_why 117 = .ok (.iload 4, 2) := by decide +kernel
theorem dX10_why_119 : decode cX10_why 119 = .ok (.ifCond .ne 16, 3) := by decide +kernel
theorem dX10_why_122 : decode cX10_why 122 = .ok (.aload_n 0, 1) := by decide +kernel
theorem dX10_why_123 : decode cX10_why 123 = .ok (.getfield 7, 3) := by decide +kernel
theorem dX10_why_126 : decode cX10_why 126 = .ok (.iload 5, 2) := by decide +kernel
theorem dX10_why_128 : decode cX10_why 128 = .ok (.bipush 17, 2) := by decide +kernel
theorem dX10_why_130 : decode cX10_why 130 = .ok (.iadd, 1) := by decide +kernel
theorem dX10_why_131 : decode cX10_why 131 = .ok (.iaload, 1) := by decide +kernel
theorem dX10_why_132 : decode cX10_why 132 = .ok (.goto 13, 3) := by decide +kernel
theorem dX10_why_135 : decode cX10_why 135 = .ok (.aload_n 0, 1) := by decide +kernel
theorem dX10_why_136 : decode cX10_why 136 = .ok (.getfield 7, 3) := by decide +kernel
theorem dX10_why_139 : decode cX10_why 139 = .ok (.iload 5, 2) := by decide +kernel
theorem dX10_why_141 : decode cX10_why 141 = .ok (.bipush 16, 2) := by decide +kernel
theorem dX10_why_143 : decode cX10_why 143 = .ok (.iadd, 1) := by decide +kernel
theorem dX10_why_144 : decode cX10_why 144 = .ok (.iaload, 1) := by decide +kernel
theorem dX10_why_145 : decode cX10_why 145 = .ok (.ireturn, 1) := by decide +kernel
theorem dX10_why_146 : decode cX10_why 146 = .ok (.iload 4, 2) := by decide +kernel
theorem dX10_why_148 : decode cX10_why 148 = .ok (.ifCond .ne 6, 3) := by decide +kernel
theorem dX10_why_151 : decode cX10_why 151 = .ok (.iload 7, 2) := by decide +kernel
theorem dX10_why_153 : decode cX10_why 153 = .ok (.ireturn, 1) := by decide +kernel
theorem dX10_why_154 : decode cX10_why 154 = .ok (.iload 7, 2) := by decide +kernel
theorem dX10_why_156 : decode cX10_why 156 = .ok (.bipush 11, 2) := by decide +kernel
theorem dX10_why_158 : decode cX10_why 158 = .ok (.if_icmp .ne 16, 3) := by decide +kernel
theorem dX10_why_161 : decode cX10_why 161 = .ok (.aload_n 0, 1) := by decide +kernel
theorem dX10_why_162 : decode cX10_why 162 = .ok (.getfield 7, 3) := by decide +kernel
theorem dX10_why_165 : decode cX10_why 165 = .ok (.iload 5, 2) := by decide +kernel
theorem dX10_why_167 : decode cX10_why 167 = .ok (.bipush 16, 2) := by decide +kernel
theorem dX10_why_169 : decode cX10_why 169 = .ok (.iadd, 1) := by decide +kernel
theorem dX10_why_170 : decode cX10_why 170 = .ok (.iaload, 1) := by decide +kernel
theorem dX10_why_171 : decode cX10_why 171 = .ok (.goto 47, 3) := by decide +kernel
theorem dX10_why_174 : decode cX10_why 174 = .ok (.iload 7, 2) := by decide +kernel
theorem dX10_why_176 : decode cX10_why 176 = .ok (.bipush 12, 2) := by decide +kernel
theorem dX10_why_178 : decode cX10_why 178 = .ok (.if_icmp .ne 9, 3) := by decide +kernel
theorem dX10_why_181 : decode cX10_why 181 = .ok (.iload_n 2, 1) := by decide +kernel
theorem dX10_why_182 : decode cX10_why 182 = .ok (.iconst 2, 1) := by decide +kernel
theorem dX10_why_183 : decode cX10_why 183 = .ok (.isub, 1) := by decide +kernel
theorem dX10_why_184 : decode cX10_why 184 = .ok (.goto 34, 3) := by decide +kernel
theorem dX10_why_187 : decode cX10_why 187 = .ok (.iload 7, 2) := by decide +kernel
theorem dX10_why_189 : decode cX10_why 189 = .ok (.bipush 15, 2) := by decide +kernel
theorem dX10_why_191 : decode cX10_why 191 = .ok (.if_icmp .eq 10, 3) := by decide +kernel
theorem dX10_why_194 : decode cX10_why 194 = .ok (.iload 7, 2) := by decide +kernel
theorem dX10_why_196 : decode cX10_why 196 = .ok (.bipush 16, 2) := by decide +kernel
theorem dX10_why_198 : decode cX10_why 198 = .ok (.if_icmp .ne 19, 3) := by decide +kernel
theorem dX10_why_201 : decode cX10_why 201 = .ok (.aload_n 0, 1) := by decide +kernel
theorem dX10_why_202 : decode cX10_why 202 = .ok (.getfield 7, 3) := by decide +kernel
theorem dX10_why_205 : decode cX10_why 205 = .ok (.iload 5, 2) := by decide +kernel
theorem dX10_why_207 : decode cX10_why 207 = .ok (.iload_n 2, 1) := by decide +kernel
theorem dX10_why_208 : decode cX10_why 208 = .ok (.invokestatic 56, 3) := by decide +kernel
theorem dX10_why_211 : decode cX10_why 211 = .ok (.iconst 2, 1) := by decide +kernel
theorem dX10_why_212 : decode cX10_why 212 = .ok (.iadd, 1) := by decide +kernel
theorem dX10_why_213 : decode cX10_why 213 = .ok (.iaload, 1) := by decide +kernel
theorem dX10_why_214 : decode cX10_why 214 = .ok (.goto 4, 3) := by decide +kernel
theorem dX10_why_217 : decode cX10_why 217 = .ok (.iconst (-1), 1) := by decide +kernel
theorem dX10_why_218 : decode cX10_why 218 = .ok (.ireturn, 1) := by decide +kernel
theorem dX10_worth_0 : decode cX10_worth 0 = .ok (.iload_n 1, 1) := by decide +kernel
theorem dX10_worth_1 : decode cX10_worth 1 = .ok (.invokestatic 100, 3) := by decide +kernel
theorem dX10_worth_4 : decode cX10_worth 4 = .ok (.ifCond .ne 5, 3) := by decide +kernel
theorem dX10_worth_7 : decode cX10_worth 7 = .ok (.iconst (-1), 1) := by decide +kernel
theorem dX10_worth_8 : decode cX10_worth 8 = .ok (.ireturn, 1) := by decide +kernel
theorem dX10_worth_9 : decode cX10_worth 9 = .ok (.iconst 0, 1) := by decide +kernel
theorem dX10_worth_10 : decode cX10_worth 10 = .ok (.istore_n 2, 1) := by decide +kernel
theorem dX10_worth_11 : decode cX10_worth 11 = .ok (.iconst 0, 1) := by decide +kernel
theorem dX10_worth_12 : decode cX10_worth 12 = .ok (.istore_n 3, 1) := by decide +kernel
theorem dX10_worth_13 : decode cX10_worth 13 = .ok (.iload_n 3, 1) := by decide +kernel
theorem dX10_worth_14 : decode cX10_worth 14 = .ok (.aload_n 0, 1) := by decide +kernel
theorem dX10_worth_15 : decode cX10_worth 15 = .ok (.getfield 7, 3) := by decide +kernel
theorem dX10_worth_18 : decode cX10_worth 18 = .ok (.iconst 1, 1) := by decide +kernel
theorem dX10_worth_19 : decode cX10_worth 19 = .ok (.iaload, 1) := by decide +kernel
theorem dX10_worth_20 : decode cX10_worth 20 = .ok (.if_icmp .ge 78, 3) := by decide +kernel
theorem dX10_worth_23 : decode cX10_worth 23 = .ok (.iconst 0, 1) := by decide +kernel
theorem dX10_worth_24 : decode cX10_worth 24 = .ok (.iload_n 3, 1) := by decide +kernel
theorem dX10_worth_25 : decode cX10_worth 25 = .ok (.invokestatic 109, 3) := by decide +kernel
theorem dX10_worth_28 : decode cX10_worth 28 = .ok (.istore 4, 2) := by decide +kernel
theorem dX10_worth_30 : decode cX10_worth 30 = .ok (.iload_n 2, 1) := by decide +kernel
theorem dX10_worth_31 : decode cX10_worth 31 = .ok (.aload_n 0, 1) := by decide +kernel
theorem dX10_worth_32 : decode cX10_worth 32 = .ok (.getfield 7, 3) := by decide +kernel
theorem dX10_worth_35 : decode cX10_worth 35 = .ok (.iload 4, 2) := by decide +kernel
theorem dX10_worth_37 : decode cX10_worth 37 = .ok (.bipush 10, 2) := by decide +kernel
theorem dX10_worth_39 : decode cX10_worth 39 = .ok (.iadd, 1) := by decide +kernel
theorem dX10_worth_40 : decode cX10_worth 40 = .ok (.iaload, 1) := by decide +kernel
theorem dX10_worth_41 : decode cX10_worth 41 = .ok (.ifCond .ne 48, 3) := by decide +kernel
theorem dX10_worth_44 : decode cX10_worth 44 = .ok (.aload_n 0, 1) := by decide +kernel
theorem dX10_worth_45 : decode cX10_worth 45 = .ok (.getfield 7, 3) := by decide +kernel
theorem dX10_worth_48 : decode cX10_worth 48 = .ok (.iload 4, 2) := by decide +kernel
theorem dX10_worth_50 : decode cX10_worth 50 = .ok (.bipush 7, 2) := by decide +kernel
theorem dX10_worth_52 : decode cX10_worth 52 = .ok (.iadd, 1) := by decide +kernel
theorem dX10_worth_53 : decode cX10_worth 53 = .ok (.iaload, 1) := by decide +kernel
theorem dX10_worth_54 : decode cX10_worth 54 = .ok (.iload_n 1, 1) := by decide +kernel
theorem dX10_worth_55 : decode cX10_worth 55 = .ok (.if_icmp .ne 34, 3) := by decide +kernel
theorem dX10_worth_58 : decode cX10_worth 58 = .ok (.aload_n 0, 1) := by decide +kernel
theorem dX10_worth_59 : decode cX10_worth 59 = .ok (.iload 4, 2) := by decide +kernel
theorem dX10_worth_61 : decode cX10_worth 61 = .ok (.invokevirtual 70, 3) := by decide +kernel
theorem dX10_worth_64 : decode cX10_worth 64 = .ok (.ifCond .eq 25, 3) := by decide +kernel
theorem dX10_worth_67 : decode cX10_worth 67 = .ok (.aload_n 0, 1) := by decide +kernel
theorem dX10_worth_68 : decode cX10_worth 68 = .ok (.iconst 0, 1) := by decide +kernel
theorem dX10_worth_69 : decode cX10_worth 69 = .ok (.iload 4, 2) := by decide +kernel
theorem dX10_worth_71 : decode cX10_worth 71 = .ok (.invokevirtual 168, 3) := by decide +kernel
theorem dX10_worth_74 : decode cX10_worth 74 = .ok (.ifCond .lt 15, 3) := by decide +kernel
theorem dX10_worth_77 : decode cX10_worth 77 = .ok (.aload_n 0, 1) := by decide +kernel
theorem dX10_worth_78 : decode cX10_worth 78 = .ok (.getfield 7, 3) := by decide +kernel
theorem dX10_worth_81 : decode cX10_worth 81 = .ok (.iload 4, 2) := by decide +kernel
theorem dX10_worth_83 : decode cX10_worth 83 = .ok (.iconst 3, 1) := by decide +kernel
theorem dX10_worth_84 : decode cX10_worth 84 = .ok (.iadd, 1) := by decide +kernel
theorem dX10_worth_85 : decode cX10_worth 85 = .ok (.iaload, 1) := by decide +kernel
theorem dX10_worth_86 : decode cX10_worth 86 = .ok (.goto 4, 3) := by decide +kernel
theorem dX10_worth_89 : decode cX10_worth 89 = .ok (.iconst 0, 1) := by decide +kernel
theorem dX10_worth_90 : decode cX10_worth 90 = .ok (.iadd, 1) := by decide +kernel
theorem dX10_worth_91 : decode cX10_worth 91 = .ok (.istore_n 2, 1) := by decide +kernel
theorem dX10_worth_92 : decode cX10_worth 92 = .ok (.iinc 3 1, 3) := by decide +kernel
theorem dX10_worth_95 : decode cX10_worth 95 = .ok (.goto (-82), 3) := by decide +kernel
theorem dX10_worth_98 : decode cX10_worth 98 = .ok (.iload_n 2, 1) := by decide +kernel
theorem dX10_worth_99 : decode cX10_worth 99 = .ok (.ireturn, 1) := by decide +kernel
