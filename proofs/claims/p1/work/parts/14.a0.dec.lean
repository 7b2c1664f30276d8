theorem dX8_drawOne_0 : decode cX8_drawOne 0 = .ok (.aload_n 0, 1) := by decide +kernel
theorem dX8_drawOne_1 : decode cX8_drawOne 1 = .ok (.getfield 36, 3) := by decide +kernel
theorem dX8_drawOne_4 : decode cX8_drawOne 4 = .ok (.iconst 4, 1) := by decide +kernel
theorem dX8_drawOne_5 : decode cX8_drawOne 5 = .ok (.if_icmp .ge 24, 3) := by decide +kernel
theorem dX8_drawOne_8 : decode cX8_drawOne 8 = .ok (.iload_n 1, 1) := by decide +kernel
theorem dX8_drawOne_9 : decode cX8_drawOne 9 = .ok (.invokestatic 94, 3) := by decide +kernel
theorem dX8_drawOne_12 : decode cX8_drawOne 12 = .ok (.ifCond .eq 17, 3) := by decide +kernel
theorem dX8_drawOne_15 : decode cX8_drawOne 15 = .ok (.iload_n 2, 1) := by decide +kernel
theorem dX8_drawOne_16 : decode cX8_drawOne 16 = .ok (.invokestatic 94, 3) := by decide +kernel
theorem dX8_drawOne_19 : decode cX8_drawOne 19 = .ok (.ifCond .eq 10, 3) := by decide +kernel
theorem dX8_drawOne_22 : decode cX8_drawOne 22 = .ok (.iload_n 3, 1) := by decide +kernel
theorem dX8_drawOne_23 : decode cX8_drawOne 23 = .ok (.invokestatic 94, 3) := by decide +kernel
theorem dX8_drawOne_26 : decode cX8_drawOne 26 = .ok (.ifCond .ne 6, 3) := by decide +kernel
theorem dX8_drawOne_29 : decode cX8_drawOne 29 = .ok (.bipush 30, 2) := by decide +kernel
theorem dX8_drawOne_31 : decode cX8_drawOne 31 = .ok (.ireturn, 1) := by decide +kernel
theorem dX8_drawOne_32 : decode cX8_drawOne 32 = .ok (.iload 4, 2) := by decide +kernel
theorem dX8_drawOne_34 : decode cX8_drawOne 34 = .ok (.iconst 1, 1) := by decide +kernel
theorem dX8_drawOne_35 : decode cX8_drawOne 35 = .ok (.if_icmp .lt 23, 3) := by decide +kernel
theorem dX8_drawOne_38 : decode cX8_drawOne 38 = .ok (.iload 4, 2) := by decide +kernel
theorem dX8_drawOne_40 : decode cX8_drawOne 40 = .ok (.sipush 999, 3) := by decide +kernel
theorem dX8_drawOne_43 : decode cX8_drawOne 43 = .ok (.if_icmp .gt 15, 3) := by decide +kernel
theorem dX8_drawOne_46 : decode cX8_drawOne 46 = .ok (.iload 5, 2) := by decide +kernel
theorem dX8_drawOne_48 : decode cX8_drawOne 48 = .ok (.ifCond .lt 10, 3) := by decide +kernel
theorem dX8_drawOne_51 : decode cX8_drawOne 51 = .ok (.iload 5, 2) := by decide +kernel
theorem dX8_drawOne_53 : decode cX8_drawOne 53 = .ok (.bipush 99, 2) := by decide +kernel
theorem dX8_drawOne_55 : decode cX8_drawOne 55 = .ok (.if_icmp .le 6, 3) := by decide +kernel
theorem dX8_drawOne_58 : decode cX8_drawOne 58 = .ok (.bipush 30, 2) := by decide +kernel
theorem dX8_drawOne_60 : decode cX8_drawOne 60 = .ok (.ireturn, 1) := by decide +kernel
theorem dX8_drawOne_61 : decode cX8_drawOne 61 = .ok (.aload_n 0, 1) := by decide +kernel
theorem dX8_drawOne_62 : decode cX8_drawOne 62 = .ok (.getfield 17, 3) := by decide +kernel
theorem dX8_drawOne_65 : decode cX8_drawOne 65 = .ok (.aload_n 0, 1) := by decide +kernel
theorem dX8_drawOne_66 : decode cX8_drawOne 66 = .ok (.getfield 36, 3) := by decide +kernel
theorem dX8_drawOne_69 : decode cX8_drawOne 69 = .ok (.aaload, 1) := by decide +kernel
theorem dX8_drawOne_70 : decode cX8_drawOne 70 = .ok (.astore 7, 2) := by decide +kernel
theorem dX8_drawOne_72 : decode cX8_drawOne 72 = .ok (.aload 7, 2) := by decide +kernel
theorem dX8_drawOne_74 : decode cX8_drawOne 74 = .ok (.iload_n 1, 1) := by decide +kernel
theorem dX8_drawOne_75 : decode cX8_drawOne 75 = .ok (.iload_n 2, 1) := by decide +kernel
theorem dX8_drawOne_76 : decode cX8_drawOne 76 = .ok (.iload_n 3, 1) := by decide +kernel
theorem dX8_drawOne_77 : decode cX8_drawOne 77 = .ok (.iload 6, 2) := by decide +kernel
theorem dX8_drawOne_79 : decode cX8_drawOne 79 = .ok (.invokevirtual 97, 3) := by decide +kernel
theorem dX8_drawOne_82 : decode cX8_drawOne 82 = .ok (.aload 7, 2) := by decide +kernel
theorem dX8_drawOne_84 : decode cX8_drawOne 84 = .ok (.iload 4, 2) := by decide +kernel
theorem dX8_drawOne_86 : decode cX8_drawOne 86 = .ok (.putfield 100, 3) := by decide +kernel
theorem dX8_drawOne_89 : decode cX8_drawOne 89 = .ok (.aload 7, 2) := by decide +kernel
theorem dX8_drawOne_91 : decode cX8_drawOne 91 = .ok (.aload_n 0, 1) := by decide +kernel
theorem dX8_drawOne_92 : decode cX8_drawOne 92 = .ok (.getfield 29, 3) := by decide +kernel
theorem dX8_drawOne_95 : decode cX8_drawOne 95 = .ok (.iload 5, 2) := by decide +kernel
theorem dX8_drawOne_97 : decode cX8_drawOne 97 = .ok (.iadd, 1) := by decide +kernel
theorem dX8_drawOne_98 : decode cX8_drawOne 98 = .ok (.putfield 103, 3) := by decide +kernel
theorem dX8_drawOne_101 : decode cX8_drawOne 101 = .ok (.aload_n 0, 1) := by decide +kernel
theorem dX8_drawOne_102 : decode cX8_drawOne 102 = .ok (.dup, 1) := by decide +kernel
theorem dX8_drawOne_103 : decode cX8_drawOne 103 = .ok (.getfield 36, 3) := by decide +kernel
theorem dX8_drawOne_106 : decode cX8_drawOne 106 = .ok (.iconst 1, 1) := by decide +kernel
theorem dX8_drawOne_107 : decode cX8_drawOne 107 = .ok (.iadd, 1) := by decide +kernel
theorem dX8_drawOne_108 : decode cX8_drawOne 108 = .ok (.putfield 36, 3) := by decide +kernel
theorem dX8_drawOne_111 : decode cX8_drawOne 111 = .ok (.iconst 0, 1) := by decide +kernel
theorem dX8_drawOne_112 : decode cX8_drawOne 112 = .ok (.ireturn, 1) := by decide +kernel
theorem dX9_draw_0 : decode cX9_draw 0 = .ok (.iload_n 3, 1) := by decide +kernel
theorem dX9_draw_1 : decode cX9_draw 1 = .ok (.bipush 10, 2) := by decide +kernel
theorem dX9_draw_3 : decode cX9_draw 3 = .ok (.if_icmp .lt 7, 3) := by decide +kernel
theorem dX9_draw_6 : decode cX9_draw 6 = .ok (.iconst 1, 1) := by decide +kernel
theorem dX9_draw_7 : decode cX9_draw 7 = .ok (.goto 4, 3) := by decide +kernel
theorem dX9_draw_10 : decode cX9_draw 10 = .ok (.iconst 0, 1) := by decide +kernel
theorem dX9_draw_11 : decode cX9_draw 11 = .ok (.istore 6, 2) := by decide +kernel
theorem dX9_draw_13 : decode cX9_draw 13 = .ok (.aload_n 0, 1) := by decide +kernel
theorem dX9_draw_14 : decode cX9_draw 14 = .ok (.getfield 12, 3) := by decide +kernel
theorem dX9_draw_17 : decode cX9_draw 17 = .ok (.aload_n 0, 1) := by decide +kernel
theorem dX9_draw_18 : decode cX9_draw 18 = .ok (.getfield 12, 3) := by decide +kernel
theorem dX9_draw_21 : decode cX9_draw 21 = .ok (.iload_n 1, 1) := by decide +kernel
theorem dX9_draw_22 : decode cX9_draw 22 = .ok (.iload_n 2, 1) := by decide +kernel
theorem dX9_draw_23 : decode cX9_draw 23 = .ok (.iload 6, 2) := by decide +kernel
theorem dX9_draw_25 : decode cX9_draw 25 = .ok (.ifCond .eq 10, 3) := by decide +kernel
theorem dX9_draw_28 : decode cX9_draw 28 = .ok (.iload_n 3, 1) := by decide +kernel
theorem dX9_draw_29 : decode cX9_draw 29 = .ok (.bipush 10, 2) := by decide +kernel
theorem dX9_draw_31 : decode cX9_draw 31 = .ok (.isub, 1) := by decide +kernel
theorem dX9_draw_32 : decode cX9_draw 32 = .ok (.goto 4, 3) := by decide +kernel
theorem dX9_draw_35 : decode cX9_draw 35 = .ok (.iload_n 3, 1) := by decide +kernel
theorem dX9_draw_36 : decode cX9_draw 36 = .ok (.iload 4, 2) := by decide +kernel
theorem dX9_draw_38 : decode cX9_draw 38 = .ok (.iload 5, 2) := by decide +kernel
theorem dX9_draw_40 : decode cX9_draw 40 = .ok (.iload 6, 2) := by decide +kernel
theorem dX9_draw_42 : decode cX9_draw 42 = .ok (.invokevirtual 93, 3) := by decide +kernel
theorem dX9_draw_45 : decode cX9_draw 45 = .ok (.invokevirtual 76, 3) := by decide +kernel
theorem dX9_draw_48 : decode cX9_draw 48 = .ok (.istore 7, 2) := by decide +kernel
theorem dX9_draw_50 : decode cX9_draw 50 = .ok (.iload 7, 2) := by decide +kernel
theorem dX9_draw_52 : decode cX9_draw 52 = .ok (.ifCond .ne 15, 3) := by decide +kernel
theorem dX9_draw_55 : decode cX9_draw 55 = .ok (.aload_n 0, 1) := by decide +kernel
theorem dX9_draw_56 : decode cX9_draw 56 = .ok (.getfield 12, 3) := by decide +kernel
theorem dX9_draw_59 : decode cX9_draw 59 = .ok (.getfield 97, 3) := by decide +kernel
theorem dX9_draw_62 : decode cX9_draw 62 = .ok (.iconst 1, 1) := by decide +kernel
theorem dX9_draw_63 : decode cX9_draw 63 = .ok (.isub, 1) := by decide +kernel
theorem dX9_draw_64 : decode cX9_draw 64 = .ok (.goto 6, 3) := by decide +kernel
theorem dX9_draw_67 : decode cX9_draw 67 = .ok (.iload 7, 2) := by decide +kernel
theorem dX9_draw_69 : decode cX9_draw 69 = .ok (.ineg, 1) := by decide +kernel
theorem dX9_draw_70 : decode cX9_draw 70 = .ok (.ireturn, 1) := by decide +kernel
