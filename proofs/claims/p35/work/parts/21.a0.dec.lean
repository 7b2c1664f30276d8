theorem dX4_atEnd_0 : decode cX4_atEnd 0 = .ok (.aload_n 0, 1) := by decide +kernel
theorem dX4_atEnd_1 : decode cX4_atEnd 1 = .ok (.getfield 44, 3) := by decide +kernel
theorem dX4_atEnd_4 : decode cX4_atEnd 4 = .ok (.ifCond .ne 7, 3) := by decide +kernel
theorem dX4_atEnd_7 : decode cX4_atEnd 7 = .ok (.iconst 1, 1) := by decide +kernel
theorem dX4_atEnd_8 : decode cX4_atEnd 8 = .ok (.goto 4, 3) := by decide +kernel
theorem dX4_atEnd_11 : decode cX4_atEnd 11 = .ok (.iconst 0, 1) := by decide +kernel
theorem dX4_atEnd_12 : decode cX4_atEnd 12 = .ok (.ireturn, 1) := by decide +kernel
theorem dX4_isDigit_0 : decode cX4_isDigit 0 = .ok (.aload_n 0, 1) := by decide +kernel
theorem dX4_isDigit_1 : decode cX4_isDigit 1 = .ok (.getfield 24, 3) := by decide +kernel
theorem dX4_isDigit_4 : decode cX4_isDigit 4 = .ok (.iload_n 1, 1) := by decide +kernel
theorem dX4_isDigit_5 : decode cX4_isDigit 5 = .ok (.baload, 1) := by decide +kernel
theorem dX4_isDigit_6 : decode cX4_isDigit 6 = .ok (.bipush 48, 2) := by decide +kernel
theorem dX4_isDigit_8 : decode cX4_isDigit 8 = .ok (.if_icmp .lt 18, 3) := by decide +kernel
theorem dX4_isDigit_11 : decode cX4_isDigit 11 = .ok (.aload_n 0, 1) := by decide +kernel
theorem dX4_isDigit_12 : decode cX4_isDigit 12 = .ok (.getfield 24, 3) := by decide +kernel
theorem dX4_isDigit_15 : decode cX4_isDigit 15 = .ok (.iload_n 1, 1) := by decide +kernel
theorem dX4_isDigit_16 : decode cX4_isDigit 16 = .ok (.baload, 1) := by decide +kernel
theorem dX4_isDigit_17 : decode cX4_isDigit 17 = .ok (.bipush 57, 2) := by decide +kernel
theorem dX4_isDigit_19 : decode cX4_isDigit 19 = .ok (.if_icmp .gt 7, 3) := by decide +kernel
theorem dX4_isDigit_22 : decode cX4_isDigit 22 = .ok (.iconst 1, 1) := by decide +kernel
theorem dX4_isDigit_23 : decode cX4_isDigit 23 = .ok (.goto 4, 3) := by decide +kernel
theorem dX4_isDigit_26 : decode cX4_isDigit 26 = .ok (.iconst 0, 1) := by decide +kernel
theorem dX4_isDigit_27 : decode cX4_isDigit 27 = .ok (.ireturn, 1) := by decide +kernel
theorem dX4_isLetter_0 : decode cX4_isLetter 0 = .ok (.aload_n 0, 1) := by decide +kernel
theorem dX4_isLetter_1 : decode cX4_isLetter 1 = .ok (.getfield 24, 3) := by decide +kernel
theorem dX4_isLetter_4 : decode cX4_isLetter 4 = .ok (.iload_n 1, 1) := by decide +kernel
theorem dX4_isLetter_5 : decode cX4_isLetter 5 = .ok (.baload, 1) := by decide +kernel
theorem dX4_isLetter_6 : decode cX4_isLetter 6 = .ok (.bipush 97, 2) := by decide +kernel
theorem dX4_isLetter_8 : decode cX4_isLetter 8 = .ok (.if_icmp .lt 18, 3) := by decide +kernel
theorem dX4_isLetter_11 : decode cX4_isLetter 11 = .ok (.aload_n 0, 1) := by decide +kernel
theorem dX4_isLetter_12 : decode cX4_isLetter 12 = .ok (.getfield 24, 3) := by decide +kernel
theorem dX4_isLetter_15 : decode cX4_isLetter 15 = .ok (.iload_n 1, 1) := by decide +kernel
theorem dX4_isLetter_16 : decode cX4_isLetter 16 = .ok (.baload, 1) := by decide +kernel
theorem dX4_isLetter_17 : decode cX4_isLetter 17 = .ok (.bipush 122, 2) := by decide +kernel
theorem dX4_isLetter_19 : decode cX4_isLetter 19 = .ok (.if_icmp .gt 7, 3) := by decide +kernel
theorem dX4_isLetter_22 : decode cX4_isLetter 22 = .ok (.iconst 1, 1) := by decide +kernel
theorem dX4_isLetter_23 : decode cX4_isLetter 23 = .ok (.goto 4, 3) := by decide +kernel
theorem dX4_isLetter_26 : decode cX4_isLetter 26 = .ok (.iconst 0, 1) := by decide +kernel
theorem dX4_isLetter_27 : decode cX4_isLetter 27 = .ok (.ireturn, 1) := by decide +kernel
theorem dX4_move_0 : decode cX4_move 0 = .ok (.aload_n 0, 1) := by decide +kernel
theorem dX4_move_1 : decode cX4_move 1 = .ok (.aload_n 0, 1) := by decide +kernel
theorem dX4_move_2 : decode cX4_move 2 = .ok (.getfield 38, 3) := by decide +kernel
theorem dX4_move_5 : decode cX4_move 5 = .ok (.putfield 51, 3) := by decide +kernel
theorem dX4_move_8 : decode cX4_move 8 = .ok (.aload_n 0, 1) := by decide +kernel
theorem dX4_move_9 : decode cX4_move 9 = .ok (.getfield 51, 3) := by decide +kernel
theorem dX4_move_12 : decode cX4_move 12 = .ok (.aload_n 0, 1) := by decide +kernel
theorem dX4_move_13 : decode cX4_move 13 = .ok (.getfield 34, 3) := by decide +kernel
theorem dX4_move_16 : decode cX4_move 16 = .ok (.if_icmp .ge 44, 3) := by decide +kernel
theorem dX4_move_19 : decode cX4_move 19 = .ok (.aload_n 0, 1) := by decide +kernel
theorem dX4_move_20 : decode cX4_move 20 = .ok (.getfield 24, 3) := by decide +kernel
theorem dX4_move_23 : decode cX4_move 23 = .ok (.aload_n 0, 1) := by decide +kernel
theorem dX4_move_24 : decode cX4_move 24 = .ok (.getfield 51, 3) := by decide +kernel
theorem dX4_move_27 : decode cX4_move 27 = .ok (.baload, 1) := by decide +kernel
theorem dX4_move_28 : decode cX4_move 28 = .ok (.bipush 10, 2) := by decide +kernel
theorem dX4_move_30 : decode cX4_move 30 = .ok (.if_icmp .eq 17, 3) := by decide +kernel
theorem dX4_move_33 : decode cX4_move 33 = .ok (.aload_n 0, 1) := by decide +kernel
theorem dX4_move_34 : decode cX4_move 34 = .ok (.getfield 24, 3) := by decide +kernel
theorem dX4_move_37 : decode cX4_move 37 = .ok (.aload_n 0, 1) := by decide +kernel
theorem dX4_move_38 : decode cX4_move 38 = .ok (.getfield 51, 3) := by decide +kernel
theorem dX4_move_41 : decode cX4_move 41 = .ok (.baload, 1) := by decide +kernel
theorem dX4_move_42 : decode cX4_move 42 = .ok (.bipush 32, 2) := by decide +kernel
theorem dX4_move_44 : decode cX4_move 44 = .ok (.if_icmp .ne 16, 3) := by decide +kernel
theorem dX4_move_47 : decode cX4_move 47 = .ok (.aload_n 0, 1) := by decide +kernel
theorem dX4_move_48 : decode cX4_move 48 = .ok (.dup, 1) := by decide +kernel
theorem dX4_move_49 : decode cX4_move 49 = .ok (.getfield 51, 3) := by decide +kernel
theorem dX4_move_52 : decode cX4_move 52 = .ok (.iconst 1, 1) := by decide +kernel
theorem dX4_move_53 : decode cX4_move 53 = .ok (.iadd, 1) := by decide +kernel
theorem dX4_move_54 : decode cX4_move 54 = .ok (.putfield 51, 3) := by decide +kernel
theorem dX4_move_57 : decode cX4_move 57 = .ok (.goto (-49), 3) := by decide +kernel
theorem dX4_move_60 : decode cX4_move 60 = .ok (.aload_n 0, 1) := by decide +kernel
theorem dX4_move_61 : decode cX4_move 61 = .ok (.aload_n 0, 1) := by decide +kernel
theorem dX4_move_62 : decode cX4_move 62 = .ok (.getfield 51, 3) := by decide +kernel
theorem dX4_move_65 : decode cX4_move 65 = .ok (.putfield 38, 3) := by decide +kernel
theorem dX4_move_68 : decode cX4_move 68 = .ok (.aload_n 0, 1) := by decide +kernel
theorem dX4_move_69 : decode cX4_move 69 = .ok (.getfield 51, 3) := by decide +kernel
theorem dX4_move_72 : decode cX4_move 72 = .ok (.aload_n 0, 1) := by decide +kernel
theorem dX4_move_73 : decode cX4_move 73 = .ok (.getfield 34, 3) := by decide +kernel
theorem dX4_move_76 : decode cX4_move 76 = .ok (.if_icmp .lt 11, 3) := by decide +kernel
theorem dX4_move_79 : decode cX4_move 79 = .ok (.aload_n 0, 1) := by decide +kernel
theorem dX4_move_80 : decode cX4_move 80 = .ok (.iconst 0, 1) := by decide +kernel
theorem dX4_move_81 : decode cX4_move 81 = .ok (.putfield 44, 3) := by decide +kernel
theorem dX4_move_84 : decode cX4_move 84 = .ok (.goto 72, 3) := by decide +kernel
theorem dX4_move_87 : decode cX4_move 87 = .ok (.aload_n 0, 1) := by decide +kernel
theorem dX4_move_88 : decode cX4_move 88 = .ok (.aload_n 0, 1) := by decide +kernel
theorem dX4_move_89 : decode cX4_move 89 = .ok (.getfield 51, 3) := by decide +kernel
theorem dX4_move_92 : decode cX4_move 92 = .ok (.invokevirtual 98, 3) := by decide +kernel
theorem dX4_move_95 : decode cX4_move 95 = .ok (.ifCond .eq 10, 3) := by decide +kernel
theorem dX4_move_98 : decode cX4_move 98 = .ok (.aload_n 0, 1) := by decide +kernel
theorem dX4_move_99 : decode cX4_move 99 = .ok (.invokevirtual 102, 3) := by decide +kernel
theorem dX4_move_102 : decode cX4_move 102 = .ok (.goto 54, 3) := by decide +kernel
theorem dX4_move_105 : decode cX4_move 105 = .ok (.aload_n 0, 1) := by decide +kernel
theorem dX4_move_106 : decode cX4_move 106 = .ok (.aload_n 0, 1) := by decide +kernel
theorem dX4_move_107 : decode cX4_move 107 = .ok (.getfield 51, 3) := by decide +kernel
theorem dX4_move_110 : decode cX4_move 110 = .ok (.invokevirtual 105, 3) := by decide +kernel
theorem dX4_move_113 : decode cX4_move 113 = .ok (.ifCond .eq 10, 3) := by decide +kernel
theorem dX4_move_116 : decode cX4_move 116 = .ok (.aload_n 0, 1) := by decide +kernel
theorem dX4_move_117 : decode cX4_move 117 = .ok (.invokevirtual 108, 3) := by decide +kernel
theorem dX4_move_120 : decode cX4_move 120 = .ok (.goto 36, 3) := by decide +kernel
theorem dX4_move_123 : decode cX4_move 123 = .ok (.aload_n 0, 1) := by decide +kernel
theorem dX4_move_124 : decode cX4_move 124 = .ok (.aload_n 0, 1) := by decide +kernel
theorem dX4_move_125 : decode cX4_move 125 = .ok (.getfield 24, 3) := by decide +kernel
theorem dX4_move_128 : decode cX4_move 128 = .ok (.aload_n 0, 1) := by decide +kernel
theorem dX4_move_129 : decode cX4_move 129 = .ok (.getfield 51, 3) := by decide +kernel
theorem dX4_move_132 : decode cX4_move 132 = .ok (.baload, 1) := by decide +kernel
theorem dX4_move_133 : decode cX4_move 133 = .ok (.bipush 59, 2) := by decide +kernel
theorem dX4_move_135 : decode cX4_move 135 = .ok (.if_icmp .ne 7, 3) := by decide +kernel
theorem dX4_move_138 : decode cX4_move 138 = .ok (.iconst 3, 1) := by decide +kernel
theorem dX4_move_139 : decode cX4_move 139 = .ok (.goto 4, 3) := by decide +kernel
theorem dX4_move_142 : decode cX4_move 142 = .ok (.iconst 4, 1) := by decide +kernel
theorem dX4_move_143 : decode cX4_move 143 = .ok (.putfield 44, 3) := by decide +kernel
theorem dX4_move_146 : decode cX4_move 146 = .ok (.aload_n 0, 1) := by decide +kernel
theorem dX4_move_147 : decode cX4_move 147 = .ok (.aload_n 0, 1) := by decide +kernel
theorem dX4_move_148 : decode cX4_move 148 = .ok (.getfield 51, 3) := by decide +kernel
theorem dX4_move_151 : decode cX4_move 151 = .ok (.iconst 1, 1) := by decide +kernel
theorem dX4_move_152 : decode cX4_move 152 = .ok (.iadd, 1) := by decide +kernel
theorem dX4_move_153 : decode cX4_move 153 = .ok (.putfield 38, 3) := by decide +kernel
theorem dX4_move_156 : decode cX4_move 156 = .ok (.return_, 1) := by decide +kernel
theorem dX4_moveOverNumber_0 : decode cX4_moveOverNumber 0 = .ok (.aload_n 0, 1) := by decide +kernel
theorem dX4_moveOverNumber_1 : decode cX4_moveOverNumber 1 = .ok (.iconst 0, 1) := by decide +kernel
theorem dX4_moveOverNumber_2 : decode cX4_moveOverNumber 2 = .ok (.putfield 59, 3) := by decide +kernel
theorem dX4_moveOverNumber_5 : decode cX4_moveOverNumber 5 = .ok (.aload_n 0, 1) := by decide +kernel
theorem dX4_moveOverNumber_6 : decode cX4_moveOverNumber 6 = .ok (.getfield 38, 3) := by decide +kernel
theorem dX4_moveOverNumber_9 : decode cX4_moveOverNumber 9 = .ok (.aload_n 0, 1) := by decide +kernel
theorem dX4_moveOverNumber_10 : decode cX4_moveOverNumber 10 = .ok (.getfield 34, 3) := by decide +kernel
theorem dX4_moveOverNumber_13 : decode cX4_moveOverNumber 13 = .ok (.if_icmp .ge 71, 3) := by decide +kernel
theorem dX4_moveOverNumber_16 : decode cX4_moveOverNumber 16 = .ok (.aload_n 0, 1) := by decide +kernel
theorem dX4_moveOverNumber_17 : decode cX4_moveOverNumber 17 = .ok (.aload_n 0, 1) := by decide +kernel
theorem dX4_moveOverNumber_18 : decode cX4_moveOverNumber 18 = .ok (.getfield 38, 3) := by decide +kernel
theorem dX4_moveOverNumber_21 : decode cX4_moveOverNumber 21 = .ok (.invokevirtual 105, 3) := by decide +kernel
theorem dX4_moveOverNumber_24 : decode cX4_moveOverNumber 24 = .ok (.ifCond .eq 60, 3) := by decide +kernel
theorem dX4_moveOverNumber_27 : decode cX4_moveOverNumber 27 = .ok (.aload_n 0, 1) := by decide +kernel
theorem dX4_moveOverNumber_28 : decode cX4_moveOverNumber 28 = .ok (.aload_n 0, 1) := by decide +kernel
theorem dX4_moveOverNumber_29 : decode cX4_moveOverNumber 29 = .ok (.getfield 38, 3) := by decide +kernel
theorem dX4_moveOverNumber_32 : decode cX4_moveOverNumber 32 = .ok (.aload_n 0, 1) := by decide +kernel
theorem dX4_moveOverNumber_33 : decode cX4_moveOverNumber 33 = .ok (.getfield 51, 3) := by decide +kernel
theorem dX4_moveOverNumber_36 : decode cX4_moveOverNumber 36 = .ok (.isub, 1) := by decide +kernel
theorem dX4_moveOverNumber_37 : decode cX4_moveOverNumber 37 = .ok (.iconst 4, 1) := by decide +kernel
theorem dX4_moveOverNumber_38 : decode cX4_moveOverNumber 38 = .ok (.if_icmp .ge 26, 3) := by decide +kernel
theorem dX4_moveOverNumber_41 : decode cX4_moveOverNumber 41 = .ok (.bipush 10, 2) := by decide +kernel
theorem dX4_moveOverNumber_43 : decode cX4_moveOverNumber 43 = .ok (.aload_n 0, 1) := by decide +kernel
theorem dX4_moveOverNumber_44 : decode cX4_moveOverNumber 44 = .ok (.getfield 59, 3) := by decide +kernel
theorem dX4_moveOverNumber_47 : decode cX4_moveOverNumber 47 = .ok (.imul, 1) := by decide +kernel
theorem dX4_moveOverNumber_48 : decode cX4_moveOverNumber 48 = .ok (.aload_n 0, 1) := by decide +kernel
theorem dX4_moveOverNumber_49 : decode cX4_moveOverNumber 49 = .ok (.getfield 24, 3) := by decide +kernel
theorem dX4_moveOverNumber_52 : decode cX4_moveOverNumber 52 = .ok (.aload_n 0, 1) := by decide +kernel
theorem dX4_moveOverNumber_53 : decode cX4_moveOverNumber 53 = .ok (.getfield 38, 3) := by decide +kernel
theorem dX4_moveOverNumber_56 : decode cX4_moveOverNumber 56 = .ok (.baload, 1) := by decide +kernel
theorem dX4_moveOverNumber_57 : decode cX4_moveOverNumber 57 = .ok (.iadd, 1) := by decide +kernel
theorem dX4_moveOverNumber_58 : decode cX4_moveOverNumber 58 = .ok (.bipush 48, 2) := by decide +kernel
theorem dX4_moveOverNumber_60 : decode cX4_moveOverNumber 60 = .ok (.isub, 1) := by decide +kernel
theorem dX4_moveOverNumber_61 : decode cX4_moveOverNumber 61 = .ok (.goto 7, 3) := by decide +kernel
theorem dX4_moveOverNumber_64 : decode cX4_moveOverNumber 64 = .ok (.aload_n 0, 1) := by decide +kernel
theorem dX4_moveOverNumber_65 : decode cX4_moveOverNumber 65 = .ok (.getfield 59, 3) := by decide +kernel
theorem dX4_moveOverNumber_68 : decode cX4_moveOverNumber 68 = .ok (.putfield 59, 3) := by decide +kernel
theorem dX4_moveOverNumber_71 : decode cX4_moveOverNumber 71 = .ok (.aload_n 0, 1) := by decide +kernel
theorem dX4_moveOverNumber_72 : decode cX4_moveOverNumber 72 = .ok (.dup, 1) := by decide +kernel
theorem dX4_moveOverNumber_73 : decode cX4_moveOverNumber 73 = .ok (.getfield 38, 3) := by decide +kernel
theorem dX4_moveOverNumber_76 : decode cX4_moveOverNumber 76 = .ok (.iconst 1, 1) := by decide +kernel
theorem dX4_moveOverNumber_77 : decode cX4_moveOverNumber 77 = .ok (.iadd, 1) := by decide +kernel
theorem dX4_moveOverNumber_78 : decode cX4_moveOverNumber 78 = .ok (.putfield 38, 3) := by decide +kernel
theorem dX4_moveOverNumber_81 : decode cX4_moveOverNumber 81 = .ok (.goto (-76), 3) := by decide +kernel
theorem dX4_moveOverNumber_84 : decode cX4_moveOverNumber 84 = .ok (.aload_n 0, 1) := by decide +kernel
theorem dX4_moveOverNumber_85 : decode cX4_moveOverNumber 85 = .ok (.aload_n 0, 1) := by decide +kernel
theorem dX4_moveOverNumber_86 : decode cX4_moveOverNumber 86 = .ok (.getfield 38, 3) := by decide +kernel
theorem dX4_moveOverNumber_89 : decode cX4_moveOverNumber 89 = .ok (.aload_n 0, 1) := by decide +kernel
theorem dX4_moveOverNumber_90 : decode cX4_moveOverNumber 90 = .ok (.getfield 51, 3) := by decide +kernel
theorem dX4_moveOverNumber_93 : decode cX4_moveOverNumber 93 = .ok (.isub, 1) := by decide +kernel
theorem dX4_moveOverNumber_94 : decode cX4_moveOverNumber 94 = .ok (.iconst 4, 1) := by decide +kernel
theorem dX4_moveOverNumber_95 : decode cX4_moveOverNumber 95 = .ok (.if_icmp .gt 7, 3) := by decide +kernel
theorem dX4_moveOverNumber_98 : decode cX4_moveOverNumber 98 = .ok (.iconst 2, 1) := by decide +kernel
theorem dX4_moveOverNumber_99 : decode cX4_moveOverNumber 99 = .ok (.goto 4, 3) := by decide +kernel
theorem dX4_moveOverNumber_102 : decode cX4_moveOverNumber 102 = .ok (.iconst 4, 1) := by decide +kernel
theorem dX4_moveOverNumber_103 : decode cX4_moveOverNumber 103 = .ok (.putfield 44, 3) := by decide +kernel
theorem dX4_moveOverNumber_106 : decode cX4_moveOverNumber 106 = .ok (.return_, 1) := by decide +kernel
theorem dX4_moveOverWord_0 : decode cX4_moveOverWord 0 = .ok (.aload_n 0, 1) := by decide +kernel
theorem dX4_moveOverWord_1 : decode cX4_moveOverWord 1 = .ok (.iconst 1, 1) := by decide +kernel
theorem dX4_moveOverWord_2 : decode cX4_moveOverWord 2 = .ok (.putfield 44, 3) := by decide +kernel
theorem dX4_moveOverWord_5 : decode cX4_moveOverWord 5 = .ok (.aload_n 0, 1) := by decide +kernel
theorem dX4_moveOverWord_6 : decode cX4_moveOverWord 6 = .ok (.getfield 38, 3) := by decide +kernel
theorem dX4_moveOverWord_9 : decode cX4_moveOverWord 9 = .ok (.aload_n 0, 1) := by decide +kernel
theorem dX4_moveOverWord_10 : decode cX4_moveOverWord 10 = .ok (.getfield 34, 3) := by decide +kernel
theorem dX4_moveOverWord_13 : decode cX4_moveOverWord 13 = .ok (.if_icmp .ge 27, 3) := by decide +kernel
theorem dX4_moveOverWord_16 : decode cX4_moveOverWord 16 = .ok (.aload_n 0, 1) := by decide +kernel
theorem dX4_moveOverWord_17 : decode cX4_moveOverWord 17 = .ok (.aload_n 0, 1) := by decide +kernel
theorem dX4_moveOverWord_18 : decode cX4_moveOverWord 18 = .ok (.getfield 38, 3) := by decide +kernel
theorem dX4_moveOverWord_21 : decode cX4_moveOverWord 21 = .ok (.invokevirtual 98, 3) := by decide +kernel
theorem dX4_moveOverWord_24 : decode cX4_moveOverWord 24 = .ok (.ifCond .eq 16, 3) := by decide +kernel
theorem dX4_moveOverWord_27 : decode cX4_moveOverWord 27 = .ok (.aload_n 0, 1) := by decide +kernel
theorem dX4_moveOverWord_28 : decode cX4_moveOverWord 28 = .ok (.dup, 1) := by decide +kernel
theorem dX4_moveOverWord_29 : decode cX4_moveOverWord 29 = .ok (.getfield 38, 3) := by decide +kernel
theorem dX4_moveOverWord_32 : decode cX4_moveOverWord 32 = .ok (.iconst 1, 1) := by decide +kernel
theorem dX4_moveOverWord_33 : decode cX4_moveOverWord 33 = .ok (.iadd, 1) := by decide +kernel
theorem dX4_moveOverWord_34 : decode cX4_moveOverWord 34 = .ok (.putfield 38, 3) := by decide +kernel
theorem dX4_moveOverWord_37 : decode cX4_moveOverWord 37 = .ok (.goto (-32), 3) := by decide +kernel
theorem dX4_moveOverWord_40 : decode cX4_moveOverWord 40 = .ok (.return_, 1) := by decide +kernel
