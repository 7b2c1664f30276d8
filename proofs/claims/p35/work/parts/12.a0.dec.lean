theorem dX1_addStep_0 : decode cX1_addStep 0 = .ok (.aload_n 1, 1) := by decide +kernel
theorem dX1_addStep_1 : decode cX1_addStep 1 = .ok (.aload_n 1, 1) := by decide +kernel
theorem dX1_addStep_2 : decode cX1_addStep 2 = .ok (.getfield 132, 3) := by decide +kernel
theorem dX1_addStep_5 : decode cX1_addStep 5 = .ok (.ifCond .le 33, 3) := by decide +kernel
theorem dX1_addStep_8 : decode cX1_addStep 8 = .ok (.aload_n 1, 1) := by decide +kernel
theorem dX1_addStep_9 : decode cX1_addStep 9 = .ok (.getfield 135, 3) := by decide +kernel
theorem dX1_addStep_12 : decode cX1_addStep 12 = .ok (.ifCond .ne 26, 3) := by decide +kernel
theorem dX1_addStep_15 : decode cX1_addStep 15 = .ok (.aload_n 1, 1) := by decide +kernel
theorem dX1_addStep_16 : decode cX1_addStep 16 = .ok (.getfield 141, 3) := by decide +kernel
theorem dX1_addStep_19 : decode cX1_addStep 19 = .ok (.aload_n 0, 1) := by decide +kernel
theorem dX1_addStep_20 : decode cX1_addStep 20 = .ok (.getfield 84, 3) := by decide +kernel
theorem dX1_addStep_23 : decode cX1_addStep 23 = .ok (.if_icmp .gt 15, 3) := by decide +kernel
theorem dX1_addStep_26 : decode cX1_addStep 26 = .ok (.aload_n 0, 1) := by decide +kernel
theorem dX1_addStep_27 : decode cX1_addStep 27 = .ok (.getfield 58, 3) := by decide +kernel
theorem dX1_addStep_30 : decode cX1_addStep 30 = .ok (.iconst (-1), 1) := by decide +kernel
theorem dX1_addStep_31 : decode cX1_addStep 31 = .ok (.if_icmp .ne 7, 3) := by decide +kernel
theorem dX1_addStep_34 : decode cX1_addStep 34 = .ok (.iconst 1, 1) := by decide +kernel
theorem dX1_addStep_35 : decode cX1_addStep 35 = .ok (.goto 4, 3) := by decide +kernel
theorem dX1_addStep_38 : decode cX1_addStep 38 = .ok (.iconst 0, 1) := by decide +kernel
theorem dX1_addStep_39 : decode cX1_addStep 39 = .ok (.putfield 144, 3) := by decide +kernel
theorem dX1_addStep_42 : decode cX1_addStep 42 = .ok (.aload_n 0, 1) := by decide +kernel
theorem dX1_addStep_43 : decode cX1_addStep 43 = .ok (.getfield 20, 3) := by decide +kernel
theorem dX1_addStep_46 : decode cX1_addStep 46 = .ok (.aload_n 1, 1) := by decide +kernel
theorem dX1_addStep_47 : decode cX1_addStep 47 = .ok (.aload_n 0, 1) := by decide +kernel
theorem dX1_addStep_48 : decode cX1_addStep 48 = .ok (.getfield 61, 3) := by decide +kernel
theorem dX1_addStep_51 : decode cX1_addStep 51 = .ok (.iconst 0, 1) := by decide +kernel
theorem dX1_addStep_52 : decode cX1_addStep 52 = .ok (.invokevirtual 147, 3) := by decide +kernel
theorem dX1_addStep_55 : decode cX1_addStep 55 = .ok (.aload_n 1, 1) := by decide +kernel
theorem dX1_addStep_56 : decode cX1_addStep 56 = .ok (.aload_n 0, 1) := by decide +kernel
theorem dX1_addStep_57 : decode cX1_addStep 57 = .ok (.getfield 20, 3) := by decide +kernel
theorem dX1_addStep_60 : decode cX1_addStep 60 = .ok (.getfield 151, 3) := by decide +kernel
theorem dX1_addStep_63 : decode cX1_addStep 63 = .ok (.putfield 154, 3) := by decide +kernel
theorem dX1_addStep_66 : decode cX1_addStep 66 = .ok (.aload_n 1, 1) := by decide +kernel
theorem dX1_addStep_67 : decode cX1_addStep 67 = .ok (.aload_n 0, 1) := by decide +kernel
theorem dX1_addStep_68 : decode cX1_addStep 68 = .ok (.getfield 20, 3) := by decide +kernel
theorem dX1_addStep_71 : decode cX1_addStep 71 = .ok (.getfield 155, 3) := by decide +kernel
theorem dX1_addStep_74 : decode cX1_addStep 74 = .ok (.putfield 158, 3) := by decide +kernel
theorem dX1_addStep_77 : decode cX1_addStep 77 = .ok (.aload_n 0, 1) := by decide +kernel
theorem dX1_addStep_78 : decode cX1_addStep 78 = .ok (.aload_n 1, 1) := by decide +kernel
theorem dX1_addStep_79 : decode cX1_addStep 79 = .ok (.getfield 129, 3) := by decide +kernel
theorem dX1_addStep_82 : decode cX1_addStep 82 = .ok (.putfield 55, 3) := by decide +kernel
theorem dX1_addStep_85 : decode cX1_addStep 85 = .ok (.aload_n 0, 1) := by decide +kernel
theorem dX1_addStep_86 : decode cX1_addStep 86 = .ok (.dup, 1) := by decide +kernel
theorem dX1_addStep_87 : decode cX1_addStep 87 = .ok (.getfield 61, 3) := by decide +kernel
theorem dX1_addStep_90 : decode cX1_addStep 90 = .ok (.iconst 1, 1) := by decide +kernel
theorem dX1_addStep_91 : decode cX1_addStep 91 = .ok (.iadd, 1) := by decide +kernel
theorem dX1_addStep_92 : decode cX1_addStep 92 = .ok (.putfield 61, 3) := by decide +kernel
theorem dX1_addStep_95 : decode cX1_addStep 95 = .ok (.return_, 1) := by decide +kernel
theorem dX1_begin_0 : decode cX1_begin 0 = .ok (.aload_n 0, 1) := by decide +kernel
theorem dX1_begin_1 : decode cX1_begin 1 = .ok (.iload_n 1, 1) := by decide +kernel
theorem dX1_begin_2 : decode cX1_begin 2 = .ok (.putfield 41, 3) := by decide +kernel
theorem dX1_begin_5 : decode cX1_begin 5 = .ok (.aload_n 0, 1) := by decide +kernel
theorem dX1_begin_6 : decode cX1_begin 6 = .ok (.iload_n 2, 1) := by decide +kernel
theorem dX1_begin_7 : decode cX1_begin 7 = .ok (.putfield 45, 3) := by decide +kernel
theorem dX1_begin_10 : decode cX1_begin 10 = .ok (.aload_n 0, 1) := by decide +kernel
theorem dX1_begin_11 : decode cX1_begin 11 = .ok (.iload_n 3, 1) := by decide +kernel
theorem dX1_begin_12 : decode cX1_begin 12 = .ok (.putfield 48, 3) := by decide +kernel
theorem dX1_begin_15 : decode cX1_begin 15 = .ok (.aload_n 0, 1) := by decide +kernel
theorem dX1_begin_16 : decode cX1_begin 16 = .ok (.iload 4, 2) := by decide +kernel
theorem dX1_begin_18 : decode cX1_begin 18 = .ok (.putfield 51, 3) := by decide +kernel
theorem dX1_begin_21 : decode cX1_begin 21 = .ok (.aload_n 0, 1) := by decide +kernel
theorem dX1_begin_22 : decode cX1_begin 22 = .ok (.iload_n 3, 1) := by decide +kernel
theorem dX1_begin_23 : decode cX1_begin 23 = .ok (.putfield 55, 3) := by decide +kernel
theorem dX1_begin_26 : decode cX1_begin 26 = .ok (.aload_n 0, 1) := by decide +kernel
theorem dX1_begin_27 : decode cX1_begin 27 = .ok (.iconst (-1), 1) := by decide +kernel
theorem dX1_begin_28 : decode cX1_begin 28 = .ok (.putfield 58, 3) := by decide +kernel
theorem dX1_begin_31 : decode cX1_begin 31 = .ok (.aload_n 0, 1) := by decide +kernel
theorem dX1_begin_32 : decode cX1_begin 32 = .ok (.iconst 0, 1) := by decide +kernel
theorem dX1_begin_33 : decode cX1_begin 33 = .ok (.putfield 61, 3) := by decide +kernel
theorem dX1_begin_36 : decode cX1_begin 36 = .ok (.aload_n 0, 1) := by decide +kernel
theorem dX1_begin_37 : decode cX1_begin 37 = .ok (.iconst 0, 1) := by decide +kernel
theorem dX1_begin_38 : decode cX1_begin 38 = .ok (.putfield 64, 3) := by decide +kernel
theorem dX1_begin_41 : decode cX1_begin 41 = .ok (.aload_n 0, 1) := by decide +kernel
theorem dX1_begin_42 : decode cX1_begin 42 = .ok (.iconst 0, 1) := by decide +kernel
theorem dX1_begin_43 : decode cX1_begin 43 = .ok (.putfield 67, 3) := by decide +kernel
theorem dX1_begin_46 : decode cX1_begin 46 = .ok (.aload_n 0, 1) := by decide +kernel
theorem dX1_begin_47 : decode cX1_begin 47 = .ok (.iconst 0, 1) := by decide +kernel
theorem dX1_begin_48 : decode cX1_begin 48 = .ok (.putfield 70, 3) := by decide +kernel
theorem dX1_begin_51 : decode cX1_begin 51 = .ok (.aload_n 0, 1) := by decide +kernel
theorem dX1_begin_52 : decode cX1_begin 52 = .ok (.getfield 20, 3) := by decide +kernel
theorem dX1_begin_55 : decode cX1_begin 55 = .ok (.iload_n 3, 1) := by decide +kernel
theorem dX1_begin_56 : decode cX1_begin 56 = .ok (.iload 4, 2) := by decide +kernel
theorem dX1_begin_58 : decode cX1_begin 58 = .ok (.invokevirtual 73, 3) := by decide +kernel
theorem dX1_begin_61 : decode cX1_begin 61 = .ok (.aload_n 0, 1) := by decide +kernel
theorem dX1_begin_62 : decode cX1_begin 62 = .ok (.getfield 24, 3) := by decide +kernel
theorem dX1_begin_65 : decode cX1_begin 65 = .ok (.aload_n 0, 1) := by decide +kernel
theorem dX1_begin_66 : decode cX1_begin 66 = .ok (.getfield 20, 3) := by decide +kernel
theorem dX1_begin_69 : decode cX1_begin 69 = .ok (.invokevirtual 77, 3) := by decide +kernel
theorem dX1_begin_72 : decode cX1_begin 72 = .ok (.iconst 0, 1) := by decide +kernel
theorem dX1_begin_73 : decode cX1_begin 73 = .ok (.istore 5, 2) := by decide +kernel
theorem dX1_begin_75 : decode cX1_begin 75 = .ok (.iload 5, 2) := by decide +kernel
theorem dX1_begin_77 : decode cX1_begin 77 = .ok (.bipush 14, 2) := by decide +kernel
theorem dX1_begin_79 : decode cX1_begin 79 = .ok (.if_icmp .ge 41, 3) := by decide +kernel
theorem dX1_begin_82 : decode cX1_begin 82 = .ok (.aload_n 0, 1) := by decide +kernel
theorem dX1_begin_83 : decode cX1_begin 83 = .ok (.getfield 27, 3) := by decide +kernel
theorem dX1_begin_86 : decode cX1_begin 86 = .ok (.iload 5, 2) := by decide +kernel
theorem dX1_begin_88 : decode cX1_begin 88 = .ok (.iconst (-1), 1) := by decide +kernel
theorem dX1_begin_89 : decode cX1_begin 89 = .ok (.iastore, 1) := by decide +kernel
theorem dX1_begin_90 : decode cX1_begin 90 = .ok (.aload_n 0, 1) := by decide +kernel
theorem dX1_begin_91 : decode cX1_begin 91 = .ok (.getfield 31, 3) := by decide +kernel
theorem dX1_begin_94 : decode cX1_begin 94 = .ok (.iload 5, 2) := by decide +kernel
theorem dX1_begin_96 : decode cX1_begin 96 = .ok (.iconst 0, 1) := by decide +kernel
theorem dX1_begin_97 : decode cX1_begin 97 = .ok (.iastore, 1) := by decide +kernel
theorem dX1_begin_98 : decode cX1_begin 98 = .ok (.aload_n 0, 1) := by decide +kernel
theorem dX1_begin_99 : decode cX1_begin 99 = .ok (.getfield 34, 3) := by decide +kernel
theorem dX1_begin_102 : decode cX1_begin 102 = .ok (.iload 5, 2) := by decide +kernel
theorem dX1_begin_104 : decode cX1_begin 104 = .ok (.iconst (-1), 1) := by decide +kernel
theorem dX1_begin_105 : decode cX1_begin 105 = .ok (.iastore, 1) := by decide +kernel
theorem dX1_begin_106 : decode cX1_begin 106 = .ok (.aload_n 0, 1) := by decide +kernel
theorem dX1_begin_107 : decode cX1_begin 107 = .ok (.getfield 37, 3) := by decide +kernel
theorem dX1_begin_110 : decode cX1_begin 110 = .ok (.iload 5, 2) := by decide +kernel
theorem dX1_begin_112 : decode cX1_begin 112 = .ok (.iconst 0, 1) := by decide +kernel
theorem dX1_begin_113 : decode cX1_begin 113 = .ok (.iastore, 1) := by decide +kernel
theorem dX1_begin_114 : decode cX1_begin 114 = .ok (.iinc 5 1, 3) := by decide +kernel
theorem dX1_begin_117 : decode cX1_begin 117 = .ok (.goto (-42), 3) := by decide +kernel
theorem dX1_begin_120 : decode cX1_begin 120 = .ok (.return_, 1) := by decide +kernel
theorem dX1_copy_0 : decode cX1_copy 0 = .ok (.aload_n 0, 1) := by decide +kernel
theorem dX1_copy_1 : decode cX1_copy 1 = .ok (.aload_n 1, 1) := by decide +kernel
theorem dX1_copy_2 : decode cX1_copy 2 = .ok (.getfield 41, 3) := by decide +kernel
theorem dX1_copy_5 : decode cX1_copy 5 = .ok (.putfield 41, 3) := by decide +kernel
theorem dX1_copy_8 : decode cX1_copy 8 = .ok (.aload_n 0, 1) := by decide +kernel
theorem dX1_copy_9 : decode cX1_copy 9 = .ok (.aload_n 1, 1) := by decide +kernel
theorem dX1_copy_10 : decode cX1_copy 10 = .ok (.getfield 45, 3) := by decide +kernel
theorem dX1_copy_13 : decode cX1_copy 13 = .ok (.putfield 45, 3) := by decide +kernel
theorem dX1_copy_16 : decode cX1_copy 16 = .ok (.aload_n 0, 1) := by decide +kernel
theorem dX1_copy_17 : decode cX1_copy 17 = .ok (.aload_n 1, 1) := by decide +kernel
theorem dX1_copy_18 : decode cX1_copy 18 = .ok (.getfield 48, 3) := by decide +kernel
theorem dX1_copy_21 : decode cX1_copy 21 = .ok (.putfield 48, 3) := by decide +kernel
theorem dX1_copy_24 : decode cX1_copy 24 = .ok (.aload_n 0, 1) := by decide +kernel
theorem dX1_copy_25 : decode cX1_copy 25 = .ok (.aload_n 1, 1) := by decide +kernel
theorem dX1_copy_26 : decode cX1_copy 26 = .ok (.getfield 81, 3) := by decide +kernel
theorem dX1_copy_29 : decode cX1_copy 29 = .ok (.putfield 81, 3) := by decide +kernel
theorem dX1_copy_32 : decode cX1_copy 32 = .ok (.aload_n 0, 1) := by decide +kernel
theorem dX1_copy_33 : decode cX1_copy 33 = .ok (.aload_n 1, 1) := by decide +kernel
theorem dX1_copy_34 : decode cX1_copy 34 = .ok (.getfield 84, 3) := by decide +kernel
theorem dX1_copy_37 : decode cX1_copy 37 = .ok (.putfield 84, 3) := by decide +kernel
theorem dX1_copy_40 : decode cX1_copy 40 = .ok (.aload_n 0, 1) := by decide +kernel
theorem dX1_copy_41 : decode cX1_copy 41 = .ok (.aload_n 1, 1) := by decide +kernel
theorem dX1_copy_42 : decode cX1_copy 42 = .ok (.getfield 55, 3) := by decide +kernel
theorem dX1_copy_45 : decode cX1_copy 45 = .ok (.putfield 55, 3) := by decide +kernel
theorem dX1_copy_48 : decode cX1_copy 48 = .ok (.aload_n 0, 1) := by decide +kernel
theorem dX1_copy_49 : decode cX1_copy 49 = .ok (.aload_n 1, 1) := by decide +kernel
theorem dX1_copy_50 : decode cX1_copy 50 = .ok (.getfield 58, 3) := by decide +kernel
theorem dX1_copy_53 : decode cX1_copy 53 = .ok (.putfield 58, 3) := by decide +kernel
theorem dX1_copy_56 : decode cX1_copy 56 = .ok (.aload_n 0, 1) := by decide +kernel
theorem dX1_copy_57 : decode cX1_copy 57 = .ok (.aload_n 1, 1) := by decide +kernel
theorem dX1_copy_58 : decode cX1_copy 58 = .ok (.getfield 61, 3) := by decide +kernel
theorem dX1_copy_61 : decode cX1_copy 61 = .ok (.putfield 61, 3) := by decide +kernel
theorem dX1_copy_64 : decode cX1_copy 64 = .ok (.aload_n 0, 1) := by decide +kernel
theorem dX1_copy_65 : decode cX1_copy 65 = .ok (.aload_n 1, 1) := by decide +kernel
theorem dX1_copy_66 : decode cX1_copy 66 = .ok (.getfield 64, 3) := by decide +kernel
theorem dX1_copy_69 : decode cX1_copy 69 = .ok (.putfield 64, 3) := by decide +kernel
theorem dX1_copy_72 : decode cX1_copy 72 = .ok (.aload_n 0, 1) := by decide +kernel
theorem dX1_copy_73 : decode cX1_copy 73 = .ok (.aload_n 1, 1) := by decide +kernel
theorem dX1_copy_74 : decode cX1_copy 74 = .ok (.getfield 51, 3) := by decide +kernel
theorem dX1_copy_77 : decode cX1_copy 77 = .ok (.putfield 51, 3) := by decide +kernel
theorem dX1_copy_80 : decode cX1_copy 80 = .ok (.aload_n 0, 1) := by decide +kernel
theorem dX1_copy_81 : decode cX1_copy 81 = .ok (.aload_n 1, 1) := by decide +kernel
theorem dX1_copy_82 : decode cX1_copy 82 = .ok (.getfield 67, 3) := by decide +kernel
theorem dX1_copy_85 : decode cX1_copy 85 = .ok (.putfield 67, 3) := by decide +kernel
theorem dX1_copy_88 : decode cX1_copy 88 = .ok (.aload_n 0, 1) := by decide +kernel
theorem dX1_copy_89 : decode cX1_copy 89 = .ok (.aload_n 1, 1) := by decide +kernel
theorem dX1_copy_90 : decode cX1_copy 90 = .ok (.getfield 70, 3) := by decide +kernel
theorem dX1_copy_93 : decode cX1_copy 93 = .ok (.putfield 70, 3) := by decide +kernel
theorem dX1_copy_96 : decode cX1_copy 96 = .ok (.iconst 0, 1) := by decide +kernel
theorem dX1_copy_97 : decode cX1_copy 97 = .ok (.istore_n 2, 1) := by decide +kernel
theorem dX1_copy_98 : decode cX1_copy 98 = .ok (.iload_n 2, 1) := by decide +kernel
theorem dX1_copy_99 : decode cX1_copy 99 = .ok (.bipush 12, 2) := by decide +kernel
theorem dX1_copy_101 : decode cX1_copy 101 = .ok (.if_icmp .ge 32, 3) := by decide +kernel
theorem dX1_copy_104 : decode cX1_copy 104 = .ok (.iload_n 2, 1) := by decide +kernel
theorem dX1_copy_105 : decode cX1_copy 105 = .ok (.aload_n 1, 1) := by decide +kernel
theorem dX1_copy_106 : decode cX1_copy 106 = .ok (.getfield 61, 3) := by decide +kernel
theorem dX1_copy_109 : decode cX1_copy 109 = .ok (.if_icmp .ge 24, 3) := by decide +kernel
theorem dX1_copy_112 : decode cX1_copy 112 = .ok (.aload_n 0, 1) := by decide +kernel
theorem dX1_copy_113 : decode cX1_copy 113 = .ok (.getfield 11, 3) := by decide +kernel
theorem dX1_copy_116 : decode cX1_copy 116 = .ok (.iload_n 2, 1) := by decide +kernel
theorem dX1_copy_117 : decode cX1_copy 117 = .ok (.aaload, 1) := by decide +kernel
theorem dX1_copy_118 : decode cX1_copy 118 = .ok (.aload_n 1, 1) := by decide +kernel
theorem dX1_copy_119 : decode cX1_copy 119 = .ok (.getfield 11, 3) := by decide +kernel
theorem dX1_copy_122 : decode cX1_copy 122 = .ok (.iload_n 2, 1) := by decide +kernel
theorem dX1_copy_123 : decode cX1_copy 123 = .ok (.aaload, 1) := by decide +kernel
theorem dX1_copy_124 : decode cX1_copy 124 = .ok (.invokevirtual 87, 3) := by decide +kernel
theorem dX1_copy_127 : decode cX1_copy 127 = .ok (.iinc 2 1, 3) := by decide +kernel
theorem dX1_copy_130 : decode cX1_copy 130 = .ok (.goto (-32), 3) := by decide +kernel
theorem dX1_copy_133 : decode cX1_copy 133 = .ok (.aload_n 0, 1) := by decide +kernel
theorem dX1_copy_134 : decode cX1_copy 134 = .ok (.getfield 20, 3) := by decide +kernel
theorem dX1_copy_137 : decode cX1_copy 137 = .ok (.aload_n 1, 1) := by decide +kernel
theorem dX1_copy_138 : decode cX1_copy 138 = .ok (.getfield 20, 3) := by decide +kernel
theorem dX1_copy_141 : decode cX1_copy 141 = .ok (.invokevirtual 77, 3) := by decide +kernel
theorem dX1_copy_144 : decode cX1_copy 144 = .ok (.aload_n 0, 1) := by decide +kernel
theorem dX1_copy_145 : decode cX1_copy 145 = .ok (.getfield 24, 3) := by decide +kernel
theorem dX1_copy_148 : decode cX1_copy 148 = .ok (.aload_n 1, 1) := by decide +kernel
theorem dX1_copy_149 : decode cX1_copy 149 = .ok (.getfield 24, 3) := by decide +kernel
theorem dX1_copy_152 : decode cX1_copy 152 = .ok (.invokevirtual 77, 3) := by decide +kernel
theorem dX1_copy_155 : decode cX1_copy 155 = .ok (.aload_n 1, 1) := by decide +kernel
theorem dX1_copy_156 : decode cX1_copy 156 = .ok (.getfield 27, 3) := by decide +kernel
theorem dX1_copy_159 : decode cX1_copy 159 = .ok (.iconst 0, 1) := by decide +kernel
theorem dX1_copy_160 : decode cX1_copy 160 = .ok (.aload_n 0, 1) := by decide +kernel
theorem dX1_copy_161 : decode cX1_copy 161 = .ok (.getfield 27, 3) := by decide +kernel
theorem dX1_copy_164 : decode cX1_copy 164 = .ok (.iconst 0, 1) := by decide +kernel
theorem dX1_copy_165 : decode cX1_copy 165 = .ok (.bipush 14, 2) := by decide +kernel
theorem dX1_copy_167 : decode cX1_copy 167 = .ok (.invokestatic 90, 3) := by decide +kernel
theorem dX1_copy_170 : decode cX1_copy 170 = .ok (.aload_n 1, 1) := by decide +kernel
theorem dX1_copy_171 : decode cX1_copy 171 = .ok (.getfield 31, 3) := by decide +kernel
theorem dX1_copy_174 : decode cX1_copy 174 = .ok (.iconst 0, 1) := by decide +kernel
theorem dX1_copy_175 : decode cX1_copy 175 = .ok (.aload_n 0, 1) := by decide +kernel
theorem dX1_copy_176 : decode cX1_copy 176 = .ok (.getfield 31, 3) := by decide +kernel
theorem dX1_copy_179 : decode cX1_copy 179 = .ok (.iconst 0, 1) := by decide +kernel
theorem dX1_copy_180 : decode cX1_copy 180 = .ok (.bipush 14, 2) := by decide +kernel
theorem dX1_copy_182 : decode cX1_copy 182 = .ok (.invokestatic 90, 3) := by decide +kernel
theorem dX1_copy_185 : decode cX1_copy 185 = .ok (.aload_n 1, 1) := by decide +kernel
theorem dX1_copy_186 : decode cX1_copy 186 = .ok (.getfield 34, 3) := by decide +kernel
theorem dX1_copy_189 : decode cX1_copy 189 = .ok (.iconst 0, 1) := by decide +kernel
theorem dX1_copy_190 : decode cX1_copy 190 = .ok (.aload_n 0, 1) := by decide +kernel
theorem dX1_copy_191 : decode cX1_copy 191 = .ok (.getfield 34, 3) := by decide +kernel
theorem dX1_copy_194 : decode cX1_copy 194 = .ok (.iconst 0, 1) := by decide +kernel
theorem dX1_copy_195 : decode cX1_copy 195 = .ok (.bipush 14, 2) := by decide +kernel
theorem dX1_copy_197 : decode cX1_copy 197 = .ok (.invokestatic 90, 3) := by decide +kernel
theorem dX1_copy_200 : decode cX1_copy 200 = .ok (.aload_n 1, 1) := by decide +kernel
theorem dX1_copy_201 : decode cX1_copy 201 = .ok (.getfield 37, 3) := by decide +kernel
theorem dX1_copy_204 : decode cX1_copy 204 = .ok (.iconst 0, 1) := by decide +kernel
theorem dX1_copy_205 : decode cX1_copy 205 = .ok (.aload_n 0, 1) := by decide +kernel
theorem dX1_copy_206 : decode cX1_copy 206 = .ok (.getfield 37, 3) := by decide +kernel
theorem dX1_copy_209 : decode cX1_copy 209 = .ok (.iconst 0, 1) := by decide +kernel
theorem dX1_copy_210 : decode cX1_copy 210 = .ok (.bipush 14, 2) := by decide +kernel
theorem dX1_copy_212 : decode cX1_copy 212 = .ok (.invokestatic 90, 3) := by decide +kernel
theorem dX1_copy_215 : decode cX1_copy 215 = .ok (.return_, 1) := by decide +kernel
theorem dX1_newStep_0 : decode cX1_newStep 0 = .ok (.aload_n 0, 1) := by decide +kernel
theorem dX1_newStep_1 : decode cX1_newStep 1 = .ok (.getfield 11, 3) := by decide +kernel
theorem dX1_newStep_4 : decode cX1_newStep 4 = .ok (.aload_n 0, 1) := by decide +kernel
theorem dX1_newStep_5 : decode cX1_newStep 5 = .ok (.getfield 61, 3) := by decide +kernel
theorem dX1_newStep_8 : decode cX1_newStep 8 = .ok (.aaload, 1) := by decide +kernel
theorem dX1_newStep_9 : decode cX1_newStep 9 = .ok (.astore 5, 2) := by decide +kernel
theorem dX1_newStep_11 : decode cX1_newStep 11 = .ok (.aload 5, 2) := by decide +kernel
theorem dX1_newStep_13 : decode cX1_newStep 13 = .ok (.iload_n 1, 1) := by decide +kernel
theorem dX1_newStep_14 : decode cX1_newStep 14 = .ok (.putfield 123, 3) := by decide +kernel
theorem dX1_newStep_17 : decode cX1_newStep 17 = .ok (.aload 5, 2) := by decide +kernel
theorem dX1_newStep_19 : decode cX1_newStep 19 = .ok (.iload_n 1, 1) := by decide +kernel
theorem dX1_newStep_20 : decode cX1_newStep 20 = .ok (.iconst 4, 1) := by decide +kernel
theorem dX1_newStep_21 : decode cX1_newStep 21 = .ok (.if_icmp .ne 7, 3) := by decide +kernel
theorem dX1_newStep_24 : decode cX1_newStep 24 = .ok (.iconst (-1), 1) := by decide +kernel
theorem dX1_newStep_25 : decode cX1_newStep 25 = .ok (.goto 7, 3) := by decide +kernel
theorem dX1_newStep_28 : decode cX1_newStep 28 = .ok (.aload_n 0, 1) := by decide +kernel
theorem dX1_newStep_29 : decode cX1_newStep 29 = .ok (.getfield 55, 3) := by decide +kernel
theorem dX1_newStep_32 : decode cX1_newStep 32 = .ok (.putfield 126, 3) := by decide +kernel
theorem dX1_newStep_35 : decode cX1_newStep 35 = .ok (.aload 5, 2) := by decide +kernel
theorem dX1_newStep_37 : decode cX1_newStep 37 = .ok (.iload_n 2, 1) := by decide +kernel
theorem dX1_newStep_38 : decode cX1_newStep 38 = .ok (.putfield 100, 3) := by decide +kernel
theorem dX1_newStep_41 : decode cX1_newStep 41 = .ok (.aload 5, 2) := by decide +kernel
theorem dX1_newStep_43 : decode cX1_newStep 43 = .ok (.iload_n 3, 1) := by decide +kernel
theorem dX1_newStep_44 : decode cX1_newStep 44 = .ok (.putfield 129, 3) := by decide +kernel
theorem dX1_newStep_47 : decode cX1_newStep 47 = .ok (.aload 5, 2) := by decide +kernel
theorem dX1_newStep_49 : decode cX1_newStep 49 = .ok (.iconst 0, 1) := by decide +kernel
theorem dX1_newStep_50 : decode cX1_newStep 50 = .ok (.putfield 132, 3) := by decide +kernel
theorem dX1_newStep_53 : decode cX1_newStep 53 = .ok (.aload 5, 2) := by decide +kernel
theorem dX1_newStep_55 : decode cX1_newStep 55 = .ok (.iconst 0, 1) := by decide +kernel
theorem dX1_newStep_56 : decode cX1_newStep 56 = .ok (.putfield 135, 3) := by decide +kernel
theorem dX1_newStep_59 : decode cX1_newStep 59 = .ok (.aload 5, 2) := by decide +kernel
theorem dX1_newStep_61 : decode cX1_newStep 61 = .ok (.iconst 0, 1) := by decide +kernel
theorem dX1_newStep_62 : decode cX1_newStep 62 = .ok (.putfield 138, 3) := by decide +kernel
theorem dX1_newStep_65 : decode cX1_newStep 65 = .ok (.aload 5, 2) := by decide +kernel
theorem dX1_newStep_67 : decode cX1_newStep 67 = .ok (.iload 4, 2) := by decide +kernel
theorem dX1_newStep_69 : decode cX1_newStep 69 = .ok (.putfield 141, 3) := by decide +kernel
theorem dX1_newStep_72 : decode cX1_newStep 72 = .ok (.aload 5, 2) := by decide +kernel
theorem dX1_newStep_74 : decode cX1_newStep 74 = .ok (.areturn, 1) := by decide +kernel
theorem dX1_settle_0 : decode cX1_settle 0 = .ok (.aload_n 0, 1) := by decide +kernel
theorem dX1_settle_1 : decode cX1_settle 1 = .ok (.iload_n 1, 1) := by decide +kernel
theorem dX1_settle_2 : decode cX1_settle 2 = .ok (.invokevirtual 117, 3) := by decide +kernel
theorem dX1_settle_5 : decode cX1_settle 5 = .ok (.istore_n 3, 1) := by decide +kernel
theorem dX1_settle_6 : decode cX1_settle 6 = .ok (.iload_n 3, 1) := by decide +kernel
theorem dX1_settle_7 : decode cX1_settle 7 = .ok (.invokestatic 190, 3) := by decide +kernel
theorem dX1_settle_10 : decode cX1_settle 10 = .ok (.ifCond .ne 4, 3) := by decide +kernel
theorem dX1_settle_13 : decode cX1_settle 13 = .ok (.return_, 1) := by decide +kernel
theorem dX1_settle_14 : decode cX1_settle 14 = .ok (.aload_n 2, 1) := by decide +kernel
theorem dX1_settle_15 : decode cX1_settle 15 = .ok (.iload_n 3, 1) := by decide +kernel
theorem dX1_settle_16 : decode cX1_settle 16 = .ok (.dup2, 1) := by decide +kernel
theorem dX1_settle_17 : decode cX1_settle 17 = .ok (.iaload, 1) := by decide +kernel
theorem dX1_settle_18 : decode cX1_settle 18 = .ok (.aload_n 0, 1) := by decide +kernel
theorem dX1_settle_19 : decode cX1_settle 19 = .ok (.getfield 81, 3) := by decide +kernel
theorem dX1_settle_22 : decode cX1_settle 22 = .ok (.isub, 1) := by decide +kernel
theorem dX1_settle_23 : decode cX1_settle 23 = .ok (.iastore, 1) := by decide +kernel
theorem dX1_settle_24 : decode cX1_settle 24 = .ok (.aload_n 2, 1) := by decide +kernel
theorem dX1_settle_25 : decode cX1_settle 25 = .ok (.aload_n 0, 1) := by decide +kernel
theorem dX1_settle_26 : decode cX1_settle 26 = .ok (.getfield 55, 3) := by decide +kernel
theorem dX1_settle_29 : decode cX1_settle 29 = .ok (.sipush 9999, 3) := by decide +kernel
theorem dX1_settle_32 : decode cX1_settle 32 = .ok (.aload_n 2, 1) := by decide +kernel
theorem dX1_settle_33 : decode cX1_settle 33 = .ok (.aload_n 0, 1) := by decide +kernel
theorem dX1_settle_34 : decode cX1_settle 34 = .ok (.getfield 55, 3) := by decide +kernel
theorem dX1_settle_37 : decode cX1_settle 37 = .ok (.iaload, 1) := by decide +kernel
theorem dX1_settle_38 : decode cX1_settle 38 = .ok (.aload_n 0, 1) := by decide +kernel
theorem dX1_settle_39 : decode cX1_settle 39 = .ok (.getfield 81, 3) := by decide +kernel
theorem dX1_settle_42 : decode cX1_settle 42 = .ok (.iadd, 1) := by decide +kernel
theorem dX1_settle_43 : decode cX1_settle 43 = .ok (.invokestatic 197, 3) := by decide +kernel
theorem dX1_settle_46 : decode cX1_settle 46 = .ok (.iastore, 1) := by decide +kernel
theorem dX1_settle_47 : decode cX1_settle 47 = .ok (.iload_n 1, 1) := by decide +kernel
theorem dX1_settle_48 : decode cX1_settle 48 = .ok (.ifCond .ne 9, 3) := by decide +kernel
theorem dX1_settle_51 : decode cX1_settle 51 = .ok (.aload_n 0, 1) := by decide +kernel
theorem dX1_settle_52 : decode cX1_settle 52 = .ok (.iconst 1, 1) := by decide +kernel
theorem dX1_settle_53 : decode cX1_settle 53 = .ok (.putfield 70, 3) := by decide +kernel
theorem dX1_settle_56 : decode cX1_settle 56 = .ok (.return_, 1) := by decide +kernel
theorem dX1_settle_57 : decode cX1_settle 57 = .ok (.aload_n 0, 1) := by decide +kernel
theorem dX1_settle_58 : decode cX1_settle 58 = .ok (.iload_n 3, 1) := by decide +kernel
theorem dX1_settle_59 : decode cX1_settle 59 = .ok (.putfield 55, 3) := by decide +kernel
theorem dX1_settle_62 : decode cX1_settle 62 = .ok (.aload_n 0, 1) := by decide +kernel
theorem dX1_settle_63 : decode cX1_settle 63 = .ok (.getfield 20, 3) := by decide +kernel
theorem dX1_settle_66 : decode cX1_settle 66 = .ok (.iload_n 3, 1) := by decide +kernel
theorem dX1_settle_67 : decode cX1_settle 67 = .ok (.invokevirtual 200, 3) := by decide +kernel
theorem dX1_settle_70 : decode cX1_settle 70 = .ok (.aload_n 0, 1) := by decide +kernel
theorem dX1_settle_71 : decode cX1_settle 71 = .ok (.getfield 24, 3) := by decide +kernel
theorem dX1_settle_74 : decode cX1_settle 74 = .ok (.aload_n 0, 1) := by decide +kernel
theorem dX1_settle_75 : decode cX1_settle 75 = .ok (.getfield 20, 3) := by decide +kernel
theorem dX1_settle_78 : decode cX1_settle 78 = .ok (.invokevirtual 77, 3) := by decide +kernel
theorem dX1_settle_81 : decode cX1_settle 81 = .ok (.aload_n 0, 1) := by decide +kernel
theorem dX1_settle_82 : decode cX1_settle 82 = .ok (.aload_n 0, 1) := by decide +kernel
theorem dX1_settle_83 : decode cX1_settle 83 = .ok (.getfield 61, 3) := by decide +kernel
theorem dX1_settle_86 : decode cX1_settle 86 = .ok (.putfield 64, 3) := by decide +kernel
theorem dX1_settle_89 : decode cX1_settle 89 = .ok (.aload_n 0, 1) := by decide +kernel
theorem dX1_settle_90 : decode cX1_settle 90 = .ok (.iload_n 1, 1) := by decide +kernel
theorem dX1_settle_91 : decode cX1_settle 91 = .ok (.bipush 16, 2) := by decide +kernel
theorem dX1_settle_93 : decode cX1_settle 93 = .ok (.invokevirtual 204, 3) := by decide +kernel
theorem dX1_settle_96 : decode cX1_settle 96 = .ok (.return_, 1) := by decide +kernel
theorem dX1_whyNoStep_0 : decode cX1_whyNoStep 0 = .ok (.iload_n 1, 1) := by decide +kernel
theorem dX1_whyNoStep_1 : decode cX1_whyNoStep 1 = .ok (.aload_n 0, 1) := by decide +kernel
theorem dX1_whyNoStep_2 : decode cX1_whyNoStep 2 = .ok (.getfield 55, 3) := by decide +kernel
theorem dX1_whyNoStep_5 : decode cX1_whyNoStep 5 = .ok (.if_icmp .eq 12, 3) := by decide +kernel
theorem dX1_whyNoStep_8 : decode cX1_whyNoStep 8 = .ok (.aload_n 0, 1) := by decide +kernel
theorem dX1_whyNoStep_9 : decode cX1_whyNoStep 9 = .ok (.getfield 61, 3) := by decide +kernel
theorem dX1_whyNoStep_12 : decode cX1_whyNoStep 12 = .ok (.bipush 12, 2) := by decide +kernel
theorem dX1_whyNoStep_14 : decode cX1_whyNoStep 14 = .ok (.if_icmp .lt 6, 3) := by decide +kernel
theorem dX1_whyNoStep_17 : decode cX1_whyNoStep 17 = .ok (.bipush 30, 2) := by decide +kernel
theorem dX1_whyNoStep_19 : decode cX1_whyNoStep 19 = .ok (.ireturn, 1) := by decide +kernel
theorem dX1_whyNoStep_20 : decode cX1_whyNoStep 20 = .ok (.aload_n 0, 1) := by decide +kernel
theorem dX1_whyNoStep_21 : decode cX1_whyNoStep 21 = .ok (.getfield 70, 3) := by decide +kernel
theorem dX1_whyNoStep_24 : decode cX1_whyNoStep 24 = .ok (.ifCond .eq 8, 3) := by decide +kernel
theorem dX1_whyNoStep_27 : decode cX1_whyNoStep 27 = .ok (.bipush 31, 2) := by decide +kernel
theorem dX1_whyNoStep_29 : decode cX1_whyNoStep 29 = .ok (.goto 4, 3) := by decide +kernel
theorem dX1_whyNoStep_32 : decode cX1_whyNoStep 32 = .ok (.iconst 0, 1) := by decide +kernel
theorem dX1_whyNoStep_33 : decode cX1_whyNoStep 33 = .ok (.ireturn, 1) := by decide +kernel
theorem dX2_takeUp_0 : decode cX2_takeUp 0 = .ok (.aload_n 0, 1) := by decide +kernel
theorem dX2_takeUp_1 : decode cX2_takeUp 1 = .ok (.iconst 0, 1) := by decide +kernel
theorem dX2_takeUp_2 : decode cX2_takeUp 2 = .ok (.putfield 15, 3) := by decide +kernel
theorem dX2_takeUp_5 : decode cX2_takeUp 5 = .ok (.aload_n 0, 1) := by decide +kernel
theorem dX2_takeUp_6 : decode cX2_takeUp 6 = .ok (.iload_n 1, 1) := by decide +kernel
theorem dX2_takeUp_7 : decode cX2_takeUp 7 = .ok (.putfield 19, 3) := by decide +kernel
theorem dX2_takeUp_10 : decode cX2_takeUp 10 = .ok (.aload_n 0, 1) := by decide +kernel
theorem dX2_takeUp_11 : decode cX2_takeUp 11 = .ok (.iconst (-1), 1) := by decide +kernel
theorem dX2_takeUp_12 : decode cX2_takeUp 12 = .ok (.putfield 22, 3) := by decide +kernel
theorem dX2_takeUp_15 : decode cX2_takeUp 15 = .ok (.aload_n 0, 1) := by decide +kernel
theorem dX2_takeUp_16 : decode cX2_takeUp 16 = .ok (.iconst 0, 1) := by decide +kernel
theorem dX2_takeUp_17 : decode cX2_takeUp 17 = .ok (.putfield 25, 3) := by decide +kernel
theorem dX2_takeUp_20 : decode cX2_takeUp 20 = .ok (.aload_n 0, 1) := by decide +kernel
theorem dX2_takeUp_21 : decode cX2_takeUp 21 = .ok (.iconst 0, 1) := by decide +kernel
theorem dX2_takeUp_22 : decode cX2_takeUp 22 = .ok (.putfield 28, 3) := by decide +kernel
theorem dX2_takeUp_25 : decode cX2_takeUp 25 = .ok (.aload_n 0, 1) := by decide +kernel
theorem dX2_takeUp_26 : decode cX2_takeUp 26 = .ok (.iload_n 1, 1) := by decide +kernel
theorem dX2_takeUp_27 : decode cX2_takeUp 27 = .ok (.iconst 1, 1) := by decide +kernel
theorem dX2_takeUp_28 : decode cX2_takeUp 28 = .ok (.aload_n 0, 1) := by decide +kernel
theorem dX2_takeUp_29 : decode cX2_takeUp 29 = .ok (.getfield 9, 3) := by decide +kernel
theorem dX2_takeUp_32 : decode cX2_takeUp 32 = .ok (.iload_n 1, 1) := by decide +kernel
theorem dX2_takeUp_33 : decode cX2_takeUp 33 = .ok (.iaload, 1) := by decide +kernel
theorem dX2_takeUp_34 : decode cX2_takeUp 34 = .ok (.invokestatic 42, 3) := by decide +kernel
theorem dX2_takeUp_37 : decode cX2_takeUp 37 = .ok (.invokevirtual 38, 3) := by decide +kernel
theorem dX2_takeUp_40 : decode cX2_takeUp 40 = .ok (.return_, 1) := by decide +kernel
