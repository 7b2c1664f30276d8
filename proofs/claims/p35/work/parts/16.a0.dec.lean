theorem dX5_play_0 : decode cX5_play 0 = .ok (.aload_n 0, 1) := by decide +kernel
theorem dX5_play_1 : decode cX5_play 1 = .ok (.getfield 12, 3) := by decide +kernel
theorem dX5_play_4 : decode cX5_play 4 = .ok (.aload_n 1, 1) := by decide +kernel
theorem dX5_play_5 : decode cX5_play 5 = .ok (.invokevirtual 25, 3) := by decide +kernel
theorem dX5_play_8 : decode cX5_play 8 = .ok (.aload_n 2, 1) := by decide +kernel
theorem dX5_play_9 : decode cX5_play 9 = .ok (.iconst 0, 1) := by decide +kernel
theorem dX5_play_10 : decode cX5_play 10 = .ok (.aload_n 0, 1) := by decide +kernel
theorem dX5_play_11 : decode cX5_play 11 = .ok (.getfield 18, 3) := by decide +kernel
theorem dX5_play_14 : decode cX5_play 14 = .ok (.iconst 0, 1) := by decide +kernel
theorem dX5_play_15 : decode cX5_play 15 = .ok (.bipush 8, 2) := by decide +kernel
theorem dX5_play_17 : decode cX5_play 17 = .ok (.invokestatic 29, 3) := by decide +kernel
theorem dX5_play_20 : decode cX5_play 20 = .ok (.aload_n 0, 1) := by decide +kernel
theorem dX5_play_21 : decode cX5_play 21 = .ok (.iconst 0, 1) := by decide +kernel
theorem dX5_play_22 : decode cX5_play 22 = .ok (.putfield 35, 3) := by decide +kernel
theorem dX5_play_25 : decode cX5_play 25 = .ok (.iconst 0, 1) := by decide +kernel
theorem dX5_play_26 : decode cX5_play 26 = .ok (.istore 4, 2) := by decide +kernel
theorem dX5_play_28 : decode cX5_play 28 = .ok (.iload 4, 2) := by decide +kernel
theorem dX5_play_30 : decode cX5_play 30 = .ok (.bipush 14, 2) := by decide +kernel
theorem dX5_play_32 : decode cX5_play 32 = .ok (.if_icmp .ge 64, 3) := by decide +kernel
theorem dX5_play_35 : decode cX5_play 35 = .ok (.aload_n 0, 1) := by decide +kernel
theorem dX5_play_36 : decode cX5_play 36 = .ok (.getfield 12, 3) := by decide +kernel
theorem dX5_play_39 : decode cX5_play 39 = .ok (.aload_n 0, 1) := by decide +kernel
theorem dX5_play_40 : decode cX5_play 40 = .ok (.getfield 18, 3) := by decide +kernel
theorem dX5_play_43 : decode cX5_play 43 = .ok (.iload_n 3, 1) := by decide +kernel
theorem dX5_play_44 : decode cX5_play 44 = .ok (.invokevirtual 39, 3) := by decide +kernel
theorem dX5_play_47 : decode cX5_play 47 = .ok (.istore 5, 2) := by decide +kernel
theorem dX5_play_49 : decode cX5_play 49 = .ok (.iload 5, 2) := by decide +kernel
theorem dX5_play_51 : decode cX5_play 51 = .ok (.iconst (-1), 1) := by decide +kernel
theorem dX5_play_52 : decode cX5_play 52 = .ok (.if_icmp .ne 4, 3) := by decide +kernel
theorem dX5_play_55 : decode cX5_play 55 = .ok (.return_, 1) := by decide +kernel
theorem dX5_play_56 : decode cX5_play 56 = .ok (.aload_n 0, 1) := by decide +kernel
theorem dX5_play_57 : decode cX5_play 57 = .ok (.getfield 12, 3) := by decide +kernel
theorem dX5_play_60 : decode cX5_play 60 = .ok (.iload 5, 2) := by decide +kernel
theorem dX5_play_62 : decode cX5_play 62 = .ok (.aload_n 0, 1) := by decide +kernel
theorem dX5_play_63 : decode cX5_play 63 = .ok (.getfield 18, 3) := by decide +kernel
theorem dX5_play_66 : decode cX5_play 66 = .ok (.invokevirtual 43, 3) := by decide +kernel
theorem dX5_play_69 : decode cX5_play 69 = .ok (.aload_n 0, 1) := by decide +kernel
theorem dX5_play_70 : decode cX5_play 70 = .ok (.getfield 22, 3) := by decide +kernel
theorem dX5_play_73 : decode cX5_play 73 = .ok (.aload_n 0, 1) := by decide +kernel
theorem dX5_play_74 : decode cX5_play 74 = .ok (.getfield 35, 3) := by decide +kernel
theorem dX5_play_77 : decode cX5_play 77 = .ok (.iload 5, 2) := by decide +kernel
theorem dX5_play_79 : decode cX5_play 79 = .ok (.iastore, 1) := by decide +kernel
theorem dX5_play_80 : decode cX5_play 80 = .ok (.aload_n 0, 1) := by decide +kernel
theorem dX5_play_81 : decode cX5_play 81 = .ok (.dup, 1) := by decide +kernel
theorem dX5_play_82 : decode cX5_play 82 = .ok (.getfield 35, 3) := by decide +kernel
theorem dX5_play_85 : decode cX5_play 85 = .ok (.iconst 1, 1) := by decide +kernel
theorem dX5_play_86 : decode cX5_play 86 = .ok (.iadd, 1) := by decide +kernel
theorem dX5_play_87 : decode cX5_play 87 = .ok (.putfield 35, 3) := by decide +kernel
theorem dX5_play_90 : decode cX5_play 90 = .ok (.iinc 4 1, 3) := by decide +kernel
theorem dX5_play_93 : decode cX5_play 93 = .ok (.goto (-65), 3) := by decide +kernel
theorem dX5_play_96 : decode cX5_play 96 = .ok (.return_, 1) := by decide +kernel
