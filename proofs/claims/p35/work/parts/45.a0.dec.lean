theorem dX10_text_0 : decode cX10_text 0 = .ok (.aload_n 0, 1) := by decide +kernel
theorem dX10_text_1 : decode cX10_text 1 = .ok (.aload_n 0, 1) := by decide +kernel
theorem dX10_text_2 : decode cX10_text 2 = .ok (.getfield 180, 3) := by decide +kernel
theorem dX10_text_5 : decode cX10_text 5 = .ok (.putfield 201, 3) := by decide +kernel
theorem dX10_text_8 : decode cX10_text 8 = .ok (.aload_n 0, 1) := by decide +kernel
theorem dX10_text_9 : decode cX10_text 9 = .ok (.iconst 0, 1) := by decide +kernel
theorem dX10_text_10 : decode cX10_text 10 = .ok (.putfield 180, 3) := by decide +kernel
theorem dX10_text_13 : decode cX10_text 13 = .ok (.aload_n 0, 1) := by decide +kernel
theorem dX10_text_14 : decode cX10_text 14 = .ok (.iconst (-1), 1) := by decide +kernel
theorem dX10_text_15 : decode cX10_text 15 = .ok (.putfield 20, 3) := by decide +kernel
theorem dX10_text_18 : decode cX10_text 18 = .ok (.aload_n 0, 1) := by decide +kernel
theorem dX10_text_19 : decode cX10_text 19 = .ok (.iconst 0, 1) := by decide +kernel
theorem dX10_text_20 : decode cX10_text 20 = .ok (.putfield 234, 3) := by decide +kernel
theorem dX10_text_23 : decode cX10_text 23 = .ok (.aload_n 0, 1) := by decide +kernel
theorem dX10_text_24 : decode cX10_text 24 = .ok (.iconst 0, 1) := by decide +kernel
theorem dX10_text_25 : decode cX10_text 25 = .ok (.putfield 204, 3) := by decide +kernel
theorem dX10_text_28 : decode cX10_text 28 = .ok (.aload_n 0, 1) := by decide +kernel
theorem dX10_text_29 : decode cX10_text 29 = .ok (.iconst 0, 1) := by decide +kernel
theorem dX10_text_30 : decode cX10_text 30 = .ok (.putfield 245, 3) := by decide +kernel
theorem dX10_text_33 : decode cX10_text 33 = .ok (.aload_n 0, 1) := by decide +kernel
theorem dX10_text_34 : decode cX10_text 34 = .ok (.invokevirtual 238, 3) := by decide +kernel
theorem dX10_text_37 : decode cX10_text 37 = .ok (.aload_n 0, 1) := by decide +kernel
theorem dX10_text_38 : decode cX10_text 38 = .ok (.getfield 234, 3) := by decide +kernel
theorem dX10_text_41 : decode cX10_text 41 = .ok (.ifCond .ne 17, 3) := by decide +kernel
theorem dX10_text_44 : decode cX10_text 44 = .ok (.aload_n 0, 1) := by decide +kernel
theorem dX10_text_45 : decode cX10_text 45 = .ok (.getfield 217, 3) := by decide +kernel
theorem dX10_text_48 : decode cX10_text 48 = .ok (.ifCond .eq 10, 3) := by decide +kernel
theorem dX10_text_51 : decode cX10_text 51 = .ok (.aload_n 0, 1) := by decide +kernel
theorem dX10_text_52 : decode cX10_text 52 = .ok (.invokevirtual 266, 3) := by decide +kernel
theorem dX10_text_55 : decode cX10_text 55 = .ok (.goto (-18), 3) := by decide +kernel
theorem dX10_text_58 : decode cX10_text 58 = .ok (.aload_n 0, 1) := by decide +kernel
theorem dX10_text_59 : decode cX10_text 59 = .ok (.getfield 234, 3) := by decide +kernel
theorem dX10_text_62 : decode cX10_text 62 = .ok (.ifCond .eq 5, 3) := by decide +kernel
theorem dX10_text_65 : decode cX10_text 65 = .ok (.iconst (-1), 1) := by decide +kernel
theorem dX10_text_66 : decode cX10_text 66 = .ok (.ireturn, 1) := by decide +kernel
theorem dX10_text_67 : decode cX10_text 67 = .ok (.iload_n 1, 1) := by decide +kernel
theorem dX10_text_68 : decode cX10_text 68 = .ok (.ifCond .eq 7, 3) := by decide +kernel
theorem dX10_text_71 : decode cX10_text 71 = .ok (.aload_n 0, 1) := by decide +kernel
theorem dX10_text_72 : decode cX10_text 72 = .ok (.invokevirtual 30, 3) := by decide +kernel
theorem dX10_text_75 : decode cX10_text 75 = .ok (.iconst 0, 1) := by decide +kernel
theorem dX10_text_76 : decode cX10_text 76 = .ok (.istore_n 2, 1) := by decide +kernel
theorem dX10_text_77 : decode cX10_text 77 = .ok (.iload_n 2, 1) := by decide +kernel
theorem dX10_text_78 : decode cX10_text 78 = .ok (.aload_n 0, 1) := by decide +kernel
theorem dX10_text_79 : decode cX10_text 79 = .ok (.getfield 245, 3) := by decide +kernel
theorem dX10_text_82 : decode cX10_text 82 = .ok (.if_icmp .ge 24, 3) := by decide +kernel
theorem dX10_text_85 : decode cX10_text 85 = .ok (.aload_n 0, 1) := by decide +kernel
theorem dX10_text_86 : decode cX10_text 86 = .ok (.aload_n 0, 1) := by decide +kernel
theorem dX10_text_87 : decode cX10_text 87 = .ok (.bipush 8, 2) := by decide +kernel
theorem dX10_text_89 : decode cX10_text 89 = .ok (.iload_n 2, 1) := by decide +kernel
theorem dX10_text_90 : decode cX10_text 90 = .ok (.imul, 1) := by decide +kernel
theorem dX10_text_91 : decode cX10_text 91 = .ok (.invokevirtual 269, 3) := by decide +kernel
theorem dX10_text_94 : decode cX10_text 94 = .ok (.invokevirtual 97, 3) := by decide +kernel
theorem dX10_text_97 : decode cX10_text 97 = .ok (.ifCond .ne 9, 3) := by decide +kernel
theorem dX10_text_100 : decode cX10_text 100 = .ok (.iinc 2 1, 3) := by decide +kernel
theorem dX10_text_103 : decode cX10_text 103 = .ok (.goto (-26), 3) := by decide +kernel
theorem dX10_text_106 : decode cX10_text 106 = .ok (.iload_n 2, 1) := by decide +kernel
theorem dX10_text_107 : decode cX10_text 107 = .ok (.ireturn, 1) := by decide +kernel
