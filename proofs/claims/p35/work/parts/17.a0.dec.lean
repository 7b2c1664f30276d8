theorem dX3_fewestFrom_0 : decode cX3_fewestFrom 0 = .ok (.aload_n 1, 1) := by decide +kernel
theorem dX3_fewestFrom_1 : decode cX3_fewestFrom 1 = .ok (.iload_n 2, 1) := by decide +kernel
theorem dX3_fewestFrom_2 : decode cX3_fewestFrom 2 = .ok (.aaload, 1) := by decide +kernel
theorem dX3_fewestFrom_3 : decode cX3_fewestFrom 3 = .ok (.astore_n 3, 1) := by decide +kernel
theorem dX3_fewestFrom_4 : decode cX3_fewestFrom 4 = .ok (.aload_n 3, 1) := by decide +kernel
theorem dX3_fewestFrom_5 : decode cX3_fewestFrom 5 = .ok (.getfield 36, 3) := by decide +kernel
theorem dX3_fewestFrom_8 : decode cX3_fewestFrom 8 = .ok (.iconst (-1), 1) := by decide +kernel
theorem dX3_fewestFrom_9 : decode cX3_fewestFrom 9 = .ok (.if_icmp .eq 6, 3) := by decide +kernel
theorem dX3_fewestFrom_12 : decode cX3_fewestFrom 12 = .ok (.bipush 99, 2) := by decide +kernel
theorem dX3_fewestFrom_14 : decode cX3_fewestFrom 14 = .ok (.ireturn, 1) := by decide +kernel
theorem dX3_fewestFrom_15 : decode cX3_fewestFrom 15 = .ok (.iload_n 2, 1) := by decide +kernel
theorem dX3_fewestFrom_16 : decode cX3_fewestFrom 16 = .ok (.aload_n 0, 1) := by decide +kernel
theorem dX3_fewestFrom_17 : decode cX3_fewestFrom 17 = .ok (.getfield 39, 3) := by decide +kernel
theorem dX3_fewestFrom_20 : decode cX3_fewestFrom 20 = .ok (.if_icmp .ge 9, 3) := by decide +kernel
theorem dX3_fewestFrom_23 : decode cX3_fewestFrom 23 = .ok (.iload_n 2, 1) := by decide +kernel
theorem dX3_fewestFrom_24 : decode cX3_fewestFrom 24 = .ok (.bipush 12, 2) := by decide +kernel
theorem dX3_fewestFrom_26 : decode cX3_fewestFrom 26 = .ok (.if_icmp .lt 21, 3) := by decide +kernel
theorem dX3_fewestFrom_29 : decode cX3_fewestFrom 29 = .ok (.aload_n 3, 1) := by decide +kernel
theorem dX3_fewestFrom_30 : decode cX3_fewestFrom 30 = .ok (.aload_n 0, 1) := by decide +kernel
theorem dX3_fewestFrom_31 : decode cX3_fewestFrom 31 = .ok (.getfield 42, 3) := by decide +kernel
theorem dX3_fewestFrom_34 : decode cX3_fewestFrom 34 = .ok (.invokevirtual 45, 3) := by decide +kernel
theorem dX3_fewestFrom_37 : decode cX3_fewestFrom 37 = .ok (.ifCond .eq 7, 3) := by decide +kernel
theorem dX3_fewestFrom_40 : decode cX3_fewestFrom 40 = .ok (.iconst 0, 1) := by decide +kernel
theorem dX3_fewestFrom_41 : decode cX3_fewestFrom 41 = .ok (.goto 5, 3) := by decide +kernel
theorem dX3_fewestFrom_44 : decode cX3_fewestFrom 44 = .ok (.bipush 99, 2) := by decide +kernel
theorem dX3_fewestFrom_46 : decode cX3_fewestFrom 46 = .ok (.ireturn, 1) := by decide +kernel
theorem dX3_fewestFrom_47 : decode cX3_fewestFrom 47 = .ok (.aload_n 0, 1) := by decide +kernel
theorem dX3_fewestFrom_48 : decode cX3_fewestFrom 48 = .ok (.getfield 49, 3) := by decide +kernel
theorem dX3_fewestFrom_51 : decode cX3_fewestFrom 51 = .ok (.iload_n 2, 1) := by decide +kernel
theorem dX3_fewestFrom_52 : decode cX3_fewestFrom 52 = .ok (.aaload, 1) := by decide +kernel
theorem dX3_fewestFrom_53 : decode cX3_fewestFrom 53 = .ok (.astore 4, 2) := by decide +kernel
theorem dX3_fewestFrom_55 : decode cX3_fewestFrom 55 = .ok (.aload_n 1, 1) := by decide +kernel
theorem dX3_fewestFrom_56 : decode cX3_fewestFrom 56 = .ok (.iload_n 2, 1) := by decide +kernel
theorem dX3_fewestFrom_57 : decode cX3_fewestFrom 57 = .ok (.iconst 1, 1) := by decide +kernel
theorem dX3_fewestFrom_58 : decode cX3_fewestFrom 58 = .ok (.iadd, 1) := by decide +kernel
theorem dX3_fewestFrom_59 : decode cX3_fewestFrom 59 = .ok (.aaload, 1) := by decide +kernel
theorem dX3_fewestFrom_60 : decode cX3_fewestFrom 60 = .ok (.astore 5, 2) := by decide +kernel
theorem dX3_fewestFrom_62 : decode cX3_fewestFrom 62 = .ok (.aload 5, 2) := by decide +kernel
theorem dX3_fewestFrom_64 : decode cX3_fewestFrom 64 = .ok (.aload_n 3, 1) := by decide +kernel
theorem dX3_fewestFrom_65 : decode cX3_fewestFrom 65 = .ok (.invokevirtual 28, 3) := by decide +kernel
theorem dX3_fewestFrom_68 : decode cX3_fewestFrom 68 = .ok (.aload 5, 2) := by decide +kernel
theorem dX3_fewestFrom_70 : decode cX3_fewestFrom 70 = .ok (.aload 4, 2) := by decide +kernel
theorem dX3_fewestFrom_72 : decode cX3_fewestFrom 72 = .ok (.iload_n 2, 1) := by decide +kernel
theorem dX3_fewestFrom_73 : decode cX3_fewestFrom 73 = .ok (.iconst 0, 1) := by decide +kernel
theorem dX3_fewestFrom_74 : decode cX3_fewestFrom 74 = .ok (.invokevirtual 53, 3) := by decide +kernel
theorem dX3_fewestFrom_77 : decode cX3_fewestFrom 77 = .ok (.aload_n 0, 1) := by decide +kernel
theorem dX3_fewestFrom_78 : decode cX3_fewestFrom 78 = .ok (.aload_n 1, 1) := by decide +kernel
theorem dX3_fewestFrom_79 : decode cX3_fewestFrom 79 = .ok (.iload_n 2, 1) := by decide +kernel
theorem dX3_fewestFrom_80 : decode cX3_fewestFrom 80 = .ok (.iconst 1, 1) := by decide +kernel
theorem dX3_fewestFrom_81 : decode cX3_fewestFrom 81 = .ok (.iadd, 1) := by decide +kernel
theorem dX3_fewestFrom_82 : decode cX3_fewestFrom 82 = .ok (.invokestatic 32, 3) := by decide +kernel
theorem dX3_fewestFrom_85 : decode cX3_fewestFrom 85 = .ok (.istore 6, 2) := by decide +kernel
theorem dX3_fewestFrom_87 : decode cX3_fewestFrom 87 = .ok (.aload 4, 2) := by decide +kernel
theorem dX3_fewestFrom_89 : decode cX3_fewestFrom 89 = .ok (.invokevirtual 57, 3) := by decide +kernel
theorem dX3_fewestFrom_92 : decode cX3_fewestFrom 92 = .ok (.ifCond .eq 35, 3) := by decide +kernel
theorem dX3_fewestFrom_95 : decode cX3_fewestFrom 95 = .ok (.aload 5, 2) := by decide +kernel
theorem dX3_fewestFrom_97 : decode cX3_fewestFrom 97 = .ok (.aload_n 3, 1) := by decide +kernel
theorem dX3_fewestFrom_98 : decode cX3_fewestFrom 98 = .ok (.invokevirtual 28, 3) := by decide +kernel
theorem dX3_fewestFrom_101 : decode cX3_fewestFrom 101 = .ok (.aload 5, 2) := by decide +kernel
theorem dX3_fewestFrom_103 : decode cX3_fewestFrom 103 = .ok (.aload 4, 2) := by decide +kernel
theorem dX3_fewestFrom_105 : decode cX3_fewestFrom 105 = .ok (.iload_n 2, 1) := by decide +kernel
theorem dX3_fewestFrom_106 : decode cX3_fewestFrom 106 = .ok (.iconst 1, 1) := by decide +kernel
theorem dX3_fewestFrom_107 : decode cX3_fewestFrom 107 = .ok (.invokevirtual 53, 3) := by decide +kernel
theorem dX3_fewestFrom_110 : decode cX3_fewestFrom 110 = .ok (.iload 6, 2) := by decide +kernel
theorem dX3_fewestFrom_112 : decode cX3_fewestFrom 112 = .ok (.iconst 1, 1) := by decide +kernel
theorem dX3_fewestFrom_113 : decode cX3_fewestFrom 113 = .ok (.aload_n 0, 1) := by decide +kernel
theorem dX3_fewestFrom_114 : decode cX3_fewestFrom 114 = .ok (.aload_n 1, 1) := by decide +kernel
theorem dX3_fewestFrom_115 : decode cX3_fewestFrom 115 = .ok (.iload_n 2, 1) := by decide +kernel
theorem dX3_fewestFrom_116 : decode cX3_fewestFrom 116 = .ok (.iconst 1, 1) := by decide +kernel
theorem dX3_fewestFrom_117 : decode cX3_fewestFrom 117 = .ok (.iadd, 1) := by decide +kernel
theorem dX3_fewestFrom_118 : decode cX3_fewestFrom 118 = .ok (.invokestatic 32, 3) := by decide +kernel
theorem dX3_fewestFrom_121 : decode cX3_fewestFrom 121 = .ok (.iadd, 1) := by decide +kernel
theorem dX3_fewestFrom_122 : decode cX3_fewestFrom 122 = .ok (.invokestatic 63, 3) := by decide +kernel
theorem dX3_fewestFrom_125 : decode cX3_fewestFrom 125 = .ok (.istore 6, 2) := by decide +kernel
theorem dX3_fewestFrom_127 : decode cX3_fewestFrom 127 = .ok (.iload 6, 2) := by decide +kernel
theorem dX3_fewestFrom_129 : decode cX3_fewestFrom 129 = .ok (.ireturn, 1) := by decide +kernel
