theorem dX10_fails_0 : decode cX10_fails 0 = .ok (.aload_n 0, 1) := by decide +kernel
theorem dX10_fails_1 : decode cX10_fails 1 = .ok (.getfield 234, 3) := by decide +kernel
theorem dX10_fails_4 : decode cX10_fails 4 = .ok (.ifCond .eq 4, 3) := by decide +kernel
theorem dX10_fails_7 : decode cX10_fails 7 = .ok (.return_, 1) := by decide +kernel
theorem dX10_fails_8 : decode cX10_fails 8 = .ok (.aload_n 0, 1) := by decide +kernel
theorem dX10_fails_9 : decode cX10_fails 9 = .ok (.iconst 1, 1) := by decide +kernel
theorem dX10_fails_10 : decode cX10_fails 10 = .ok (.putfield 234, 3) := by decide +kernel
theorem dX10_fails_13 : decode cX10_fails 13 = .ok (.aload_n 0, 1) := by decide +kernel
theorem dX10_fails_14 : decode cX10_fails 14 = .ok (.aload_n 0, 1) := by decide +kernel
theorem dX10_fails_15 : decode cX10_fails 15 = .ok (.getfield 210, 3) := by decide +kernel
theorem dX10_fails_18 : decode cX10_fails 18 = .ok (.putfield 20, 3) := by decide +kernel
theorem dX10_fails_21 : decode cX10_fails 21 = .ok (.return_, 1) := by decide +kernel
theorem dX10_hasWord_0 : decode cX10_hasWord 0 = .ok (.aload_n 0, 1) := by decide +kernel
theorem dX10_hasWord_1 : decode cX10_hasWord 1 = .ok (.getfield 234, 3) := by decide +kernel
theorem dX10_hasWord_4 : decode cX10_hasWord 4 = .ok (.ifCond .ne 24, 3) := by decide +kernel
theorem dX10_hasWord_7 : decode cX10_hasWord 7 = .ok (.aload_n 0, 1) := by decide +kernel
theorem dX10_hasWord_8 : decode cX10_hasWord 8 = .ok (.getfield 217, 3) := by decide +kernel
theorem dX10_hasWord_11 : decode cX10_hasWord 11 = .ok (.iconst 1, 1) := by decide +kernel
theorem dX10_hasWord_12 : decode cX10_hasWord 12 = .ok (.if_icmp .ne 16, 3) := by decide +kernel
theorem dX10_hasWord_15 : decode cX10_hasWord 15 = .ok (.aload_n 0, 1) := by decide +kernel
theorem dX10_hasWord_16 : decode cX10_hasWord 16 = .ok (.getfield 213, 3) := by decide +kernel
theorem dX10_hasWord_19 : decode cX10_hasWord 19 = .ok (.lload_n 1, 1) := by decide +kernel
theorem dX10_hasWord_20 : decode cX10_hasWord 20 = .ok (.lcmp, 1) := by decide +kernel
theorem dX10_hasWord_21 : decode cX10_hasWord 21 = .ok (.ifCond .ne 7, 3) := by decide +kernel
theorem dX10_hasWord_24 : decode cX10_hasWord 24 = .ok (.iconst 1, 1) := by decide +kernel
theorem dX10_hasWord_25 : decode cX10_hasWord 25 = .ok (.goto 4, 3) := by decide +kernel
theorem dX10_hasWord_28 : decode cX10_hasWord 28 = .ok (.iconst 0, 1) := by decide +kernel
theorem dX10_hasWord_29 : decode cX10_hasWord 29 = .ok (.istore_n 3, 1) := by decide +kernel
theorem dX10_hasWord_30 : decode cX10_hasWord 30 = .ok (.iload_n 3, 1) := by decide +kernel
theorem dX10_hasWord_31 : decode cX10_hasWord 31 = .ok (.ifCond .eq 7, 3) := by decide +kernel
theorem dX10_hasWord_34 : decode cX10_hasWord 34 = .ok (.aload_n 0, 1) := by decide +kernel
theorem dX10_hasWord_35 : decode cX10_hasWord 35 = .ok (.invokevirtual 238, 3) := by decide +kernel
theorem dX10_hasWord_38 : decode cX10_hasWord 38 = .ok (.iload_n 3, 1) := by decide +kernel
theorem dX10_hasWord_39 : decode cX10_hasWord 39 = .ok (.ireturn, 1) := by decide +kernel
theorem dX10_isLine_0 : decode cX10_isLine 0 = .ok (.aload_n 0, 1) := by decide +kernel
theorem dX10_isLine_1 : decode cX10_isLine 1 = .ok (.lload_n 1, 1) := by decide +kernel
theorem dX10_isLine_2 : decode cX10_isLine 2 = .ok (.invokevirtual 241, 3) := by decide +kernel
theorem dX10_isLine_5 : decode cX10_isLine 5 = .ok (.ifCond .ne 5, 3) := by decide +kernel
theorem dX10_isLine_8 : decode cX10_isLine 8 = .ok (.iconst 0, 1) := by decide +kernel
theorem dX10_isLine_9 : decode cX10_isLine 9 = .ok (.ireturn, 1) := by decide +kernel
theorem dX10_isLine_10 : decode cX10_isLine 10 = .ok (.bipush 8, 2) := by decide +kernel
theorem dX10_isLine_12 : decode cX10_isLine 12 = .ok (.aload_n 0, 1) := by decide +kernel
theorem dX10_isLine_13 : decode cX10_isLine 13 = .ok (.getfield 245, 3) := by decide +kernel
theorem dX10_isLine_16 : decode cX10_isLine 16 = .ok (.imul, 1) := by decide +kernel
theorem dX10_isLine_17 : decode cX10_isLine 17 = .ok (.istore 5, 2) := by decide +kernel
theorem dX10_isLine_19 : decode cX10_isLine 19 = .ok (.iconst 0, 1) := by decide +kernel
theorem dX10_isLine_20 : decode cX10_isLine 20 = .ok (.istore 6, 2) := by decide +kernel
theorem dX10_isLine_22 : decode cX10_isLine 22 = .ok (.iload 6, 2) := by decide +kernel
theorem dX10_isLine_24 : decode cX10_isLine 24 = .ok (.iload_n 3, 1) := by decide +kernel
theorem dX10_isLine_25 : decode cX10_isLine 25 = .ok (.if_icmp .ge 58, 3) := by decide +kernel
theorem dX10_isLine_28 : decode cX10_isLine 28 = .ok (.aload_n 0, 1) := by decide +kernel
theorem dX10_isLine_29 : decode cX10_isLine 29 = .ok (.getfield 234, 3) := by decide +kernel
theorem dX10_isLine_32 : decode cX10_isLine 32 = .ok (.ifCond .ne 15, 3) := by decide +kernel
theorem dX10_isLine_35 : decode cX10_isLine 35 = .ok (.aload_n 0, 1) := by decide +kernel
theorem dX10_isLine_36 : decode cX10_isLine 36 = .ok (.getfield 217, 3) := by decide +kernel
theorem dX10_isLine_39 : decode cX10_isLine 39 = .ok (.iconst 2, 1) := by decide +kernel
theorem dX10_isLine_40 : decode cX10_isLine 40 = .ok (.if_icmp .eq 7, 3) := by decide +kernel
theorem dX10_isLine_43 : decode cX10_isLine 43 = .ok (.aload_n 0, 1) := by decide +kernel
theorem dX10_isLine_44 : decode cX10_isLine 44 = .ok (.invokevirtual 248, 3) := by decide +kernel
theorem dX10_isLine_47 : decode cX10_isLine 47 = .ok (.aload_n 0, 1) := by decide +kernel
theorem dX10_isLine_48 : decode cX10_isLine 48 = .ok (.getfield 234, 3) := by decide +kernel
theorem dX10_isLine_51 : decode cX10_isLine 51 = .ok (.ifCond .eq 5, 3) := by decide +kernel
theorem dX10_isLine_54 : decode cX10_isLine 54 = .ok (.iconst 1, 1) := by decide +kernel
theorem dX10_isLine_55 : decode cX10_isLine 55 = .ok (.ireturn, 1) := by decide +kernel
theorem dX10_isLine_56 : decode cX10_isLine 56 = .ok (.aload_n 0, 1) := by decide +kernel
theorem dX10_isLine_57 : decode cX10_isLine 57 = .ok (.getfield 27, 3) := by decide +kernel
theorem dX10_isLine_60 : decode cX10_isLine 60 = .ok (.iload 5, 2) := by decide +kernel
theorem dX10_isLine_62 : decode cX10_isLine 62 = .ok (.iconst 1, 1) := by decide +kernel
theorem dX10_isLine_63 : decode cX10_isLine 63 = .ok (.iadd, 1) := by decide +kernel
theorem dX10_isLine_64 : decode cX10_isLine 64 = .ok (.iload 6, 2) := by decide +kernel
theorem dX10_isLine_66 : decode cX10_isLine 66 = .ok (.iadd, 1) := by decide +kernel
theorem dX10_isLine_67 : decode cX10_isLine 67 = .ok (.aload_n 0, 1) := by decide +kernel
theorem dX10_isLine_68 : decode cX10_isLine 68 = .ok (.getfield 213, 3) := by decide +kernel
theorem dX10_isLine_71 : decode cX10_isLine 71 = .ok (.l2i, 1) := by decide +kernel
theorem dX10_isLine_72 : decode cX10_isLine 72 = .ok (.iastore, 1) := by decide +kernel
theorem dX10_isLine_73 : decode cX10_isLine 73 = .ok (.aload_n 0, 1) := by decide +kernel
theorem dX10_isLine_74 : decode cX10_isLine 74 = .ok (.invokevirtual 238, 3) := by decide +kernel
theorem dX10_isLine_77 : decode cX10_isLine 77 = .ok (.iinc 6 1, 3) := by decide +kernel
theorem dX10_isLine_80 : decode cX10_isLine 80 = .ok (.goto (-58), 3) := by decide +kernel
theorem dX10_isLine_83 : decode cX10_isLine 83 = .ok (.aload_n 0, 1) := by decide +kernel
theorem dX10_isLine_84 : decode cX10_isLine 84 = .ok (.getfield 27, 3) := by decide +kernel
theorem dX10_isLine_87 : decode cX10_isLine 87 = .ok (.iload 5, 2) := by decide +kernel
theorem dX10_isLine_89 : decode cX10_isLine 89 = .ok (.bipush 6, 2) := by decide +kernel
theorem dX10_isLine_91 : decode cX10_isLine 91 = .ok (.iadd, 1) := by decide +kernel
theorem dX10_isLine_92 : decode cX10_isLine 92 = .ok (.iload 4, 2) := by decide +kernel
theorem dX10_isLine_94 : decode cX10_isLine 94 = .ok (.ifCond .le 17, 3) := by decide +kernel
theorem dX10_isLine_97 : decode cX10_isLine 97 = .ok (.aload_n 0, 1) := by decide +kernel
theorem dX10_isLine_98 : decode cX10_isLine 98 = .ok (.ldc2_w 251, 3) := by decide +kernel
theorem dX10_isLine_101 : decode cX10_isLine 101 = .ok (.invokevirtual 241, 3) := by decide +kernel
theorem dX10_isLine_104 : decode cX10_isLine 104 = .ok (.ifCond .eq 7, 3) := by decide +kernel
theorem dX10_isLine_107 : decode cX10_isLine 107 = .ok (.iconst 1, 1) := by decide +kernel
theorem dX10_isLine_108 : decode cX10_isLine 108 = .ok (.goto 4, 3) := by decide +kernel
theorem dX10_isLine_111 : decode cX10_isLine 111 = .ok (.iconst 0, 1) := by decide +kernel
theorem dX10_isLine_112 : decode cX10_isLine 112 = .ok (.iastore, 1) := by decide +kernel
theorem dX10_isLine_113 : decode cX10_isLine 113 = .ok (.aload_n 0, 1) := by decide +kernel
theorem dX10_isLine_114 : decode cX10_isLine 114 = .ok (.getfield 27, 3) := by decide +kernel
theorem dX10_isLine_117 : decode cX10_isLine 117 = .ok (.iload 5, 2) := by decide +kernel
theorem dX10_isLine_119 : decode cX10_isLine 119 = .ok (.bipush 7, 2) := by decide +kernel
theorem dX10_isLine_121 : decode cX10_isLine 121 = .ok (.iadd, 1) := by decide +kernel
theorem dX10_isLine_122 : decode cX10_isLine 122 = .ok (.iload 4, 2) := by decide +kernel
theorem dX10_isLine_124 : decode cX10_isLine 124 = .ok (.iconst 1, 1) := by decide +kernel
theorem dX10_isLine_125 : decode cX10_isLine 125 = .ok (.if_icmp .le 17, 3) := by decide +kernel
theorem dX10_isLine_128 : decode cX10_isLine 128 = .ok (.aload_n 0, 1) := by decide +kernel
theorem dX10_isLine_129 : decode cX10_isLine 129 = .ok (.ldc2_w 253, 3) := by decide +kernel
theorem dX10_isLine_132 : decode cX10_isLine 132 = .ok (.invokevirtual 241, 3) := by decide +kernel
theorem dX10_isLine_135 : decode cX10_isLine 135 = .ok (.ifCond .eq 7, 3) := by decide +kernel
theorem dX10_isLine_138 : decode cX10_isLine 138 = .ok (.iconst 1, 1) := by decide +kernel
theorem dX10_isLine_139 : decode cX10_isLine 139 = .ok (.goto 4, 3) := by decide +kernel
theorem dX10_isLine_142 : decode cX10_isLine 142 = .ok (.iconst 0, 1) := by decide +kernel
theorem dX10_isLine_143 : decode cX10_isLine 143 = .ok (.iastore, 1) := by decide +kernel
theorem dX10_isLine_144 : decode cX10_isLine 144 = .ok (.iconst 1, 1) := by decide +kernel
theorem dX10_isLine_145 : decode cX10_isLine 145 = .ok (.ireturn, 1) := by decide +kernel
theorem dX10_readsLine_0 : decode cX10_readsLine 0 = .ok (.iconst 0, 1) := by decide +kernel
theorem dX10_readsLine_1 : decode cX10_readsLine 1 = .ok (.istore_n 1, 1) := by decide +kernel
theorem dX10_readsLine_2 : decode cX10_readsLine 2 = .ok (.iload_n 1, 1) := by decide +kernel
theorem dX10_readsLine_3 : decode cX10_readsLine 3 = .ok (.bipush 19, 2) := by decide +kernel
theorem dX10_readsLine_5 : decode cX10_readsLine 5 = .ok (.if_icmp .ge 106, 3) := by decide +kernel
theorem dX10_readsLine_8 : decode cX10_readsLine 8 = .ok (.aload_n 0, 1) := by decide +kernel
theorem dX10_readsLine_9 : decode cX10_readsLine 9 = .ok (.getstatic 255, 3) := by decide +kernel
theorem dX10_readsLine_12 : decode cX10_readsLine 12 = .ok (.iload_n 1, 1) := by decide +kernel
theorem dX10_readsLine_13 : decode cX10_readsLine 13 = .ok (.laload, 1) := by decide +kernel
theorem dX10_readsLine_14 : decode cX10_readsLine 14 = .ok (.getstatic 259, 3) := by decide +kernel
theorem dX10_readsLine_17 : decode cX10_readsLine 17 = .ok (.iload_n 1, 1) := by decide +kernel
theorem dX10_readsLine_18 : decode cX10_readsLine 18 = .ok (.iaload, 1) := by decide +kernel
theorem dX10_readsLine_19 : decode cX10_readsLine 19 = .ok (.iload_n 1, 1) := by decide +kernel
theorem dX10_readsLine_20 : decode cX10_readsLine 20 = .ok (.iconst 5, 1) := by decide +kernel
theorem dX10_readsLine_21 : decode cX10_readsLine 21 = .ok (.if_icmp .le 13, 3) := by decide +kernel
theorem dX10_readsLine_24 : decode cX10_readsLine 24 = .ok (.iload_n 1, 1) := by decide +kernel
theorem dX10_readsLine_25 : decode cX10_readsLine 25 = .ok (.bipush 10, 2) := by decide +kernel
theorem dX10_readsLine_27 : decode cX10_readsLine 27 = .ok (.if_icmp .ge 7, 3) := by decide +kernel
theorem dX10_readsLine_30 : decode cX10_readsLine 30 = .ok (.iconst 2, 1) := by decide +kernel
theorem dX10_readsLine_31 : decode cX10_readsLine 31 = .ok (.goto 14, 3) := by decide +kernel
theorem dX10_readsLine_34 : decode cX10_readsLine 34 = .ok (.iload_n 1, 1) := by decide +kernel
theorem dX10_readsLine_35 : decode cX10_readsLine 35 = .ok (.bipush 10, 2) := by decide +kernel
theorem dX10_readsLine_37 : decode cX10_readsLine 37 = .ok (.if_icmp .ne 7, 3) := by decide +kernel
theorem dX10_readsLine_40 : decode cX10_readsLine 40 = .ok (.iconst 1, 1) := by decide +kernel
theorem dX10_readsLine_41 : decode cX10_readsLine 41 = .ok (.goto 4, 3) := by decide +kernel
theorem dX10_readsLine_44 : decode cX10_readsLine 44 = .ok (.iconst 0, 1) := by decide +kernel
theorem dX10_readsLine_45 : decode cX10_readsLine 45 = .ok (.invokevirtual 262, 3) := by decide +kernel
theorem dX10_readsLine_48 : decode cX10_readsLine 48 = .ok (.ifCond .ne 6, 3) := by decide +kernel
theorem dX10_readsLine_51 : decode cX10_readsLine 51 = .ok (.goto 54, 3) := by decide +kernel
theorem dX10_readsLine_54 : decode cX10_readsLine 54 = .ok (.aload_n 0, 1) := by decide +kernel
theorem dX10_readsLine_55 : decode cX10_readsLine 55 = .ok (.getfield 27, 3) := by decide +kernel
theorem dX10_readsLine_58 : decode cX10_readsLine 58 = .ok (.bipush 8, 2) := by decide +kernel
theorem dX10_readsLine_60 : decode cX10_readsLine 60 = .ok (.aload_n 0, 1) := by decide +kernel
theorem dX10_readsLine_61 : decode cX10_readsLine 61 = .ok (.getfield 245, 3) := by decide +kernel
theorem dX10_readsLine_64 : decode cX10_readsLine 64 = .ok (.imul, 1) := by decide +kernel
theorem dX10_readsLine_65 : decode cX10_readsLine 65 = .ok (.iload_n 1, 1) := by decide +kernel
theorem dX10_readsLine_66 : decode cX10_readsLine 66 = .ok (.iastore, 1) := by decide +kernel
theorem dX10_readsLine_67 : decode cX10_readsLine 67 = .ok (.aload_n 0, 1) := by decide +kernel
theorem dX10_readsLine_68 : decode cX10_readsLine 68 = .ok (.dup, 1) := by decide +kernel
theorem dX10_readsLine_69 : decode cX10_readsLine 69 = .ok (.getfield 245, 3) := by decide +kernel
theorem dX10_readsLine_72 : decode cX10_readsLine 72 = .ok (.iconst 1, 1) := by decide +kernel
theorem dX10_readsLine_73 : decode cX10_readsLine 73 = .ok (.iadd, 1) := by decide +kernel
theorem dX10_readsLine_74 : decode cX10_readsLine 74 = .ok (.putfield 245, 3) := by decide +kernel
theorem dX10_readsLine_77 : decode cX10_readsLine 77 = .ok (.aload_n 0, 1) := by decide +kernel
theorem dX10_readsLine_78 : decode cX10_readsLine 78 = .ok (.getfield 234, 3) := by decide +kernel
theorem dX10_readsLine_81 : decode cX10_readsLine 81 = .ok (.ifCond .eq 4, 3) := by decide +kernel
theorem dX10_readsLine_84 : decode cX10_readsLine 84 = .ok (.return_, 1) := by decide +kernel
theorem dX10_readsLine_85 : decode cX10_readsLine 85 = .ok (.aload_n 0, 1) := by decide +kernel
theorem dX10_readsLine_86 : decode cX10_readsLine 86 = .ok (.getfield 217, 3) := by decide +kernel
theorem dX10_readsLine_89 : decode cX10_readsLine 89 = .ok (.iconst 3, 1) := by decide +kernel
theorem dX10_readsLine_90 : decode cX10_readsLine 90 = .ok (.if_icmp .ne 10, 3) := by decide +kernel
theorem dX10_readsLine_93 : decode cX10_readsLine 93 = .ok (.aload_n 0, 1) := by decide +kernel
theorem dX10_readsLine_94 : decode cX10_readsLine 94 = .ok (.invokevirtual 238, 3) := by decide +kernel
theorem dX10_readsLine_97 : decode cX10_readsLine 97 = .ok (.goto 7, 3) := by decide +kernel
theorem dX10_readsLine_100 : decode cX10_readsLine 100 = .ok (.aload_n 0, 1) := by decide +kernel
theorem dX10_readsLine_101 : decode cX10_readsLine 101 = .ok (.invokevirtual 248, 3) := by decide +kernel
theorem dX10_readsLine_104 : decode cX10_readsLine 104 = .ok (.return_, 1) := by decide +kernel
theorem dX10_readsLine_105 : decode cX10_readsLine 105 = .ok (.iinc 1 1, 3) := by decide +kernel
theorem dX10_readsLine_108 : decode cX10_readsLine 108 = .ok (.goto (-106), 3) := by decide +kernel
theorem dX10_readsLine_111 : decode cX10_readsLine 111 = .ok (.aload_n 0, 1) := by decide +kernel
theorem dX10_readsLine_112 : decode cX10_readsLine 112 = .ok (.invokevirtual 248, 3) := by decide +kernel
theorem dX10_readsLine_115 : decode cX10_readsLine 115 = .ok (.return_, 1) := by decide +kernel
