theorem dX8_findOne_0 : decode cX8_findOne 0 = .ok (.aload_n 0, 1) := by decide +kernel
theorem dX8_findOne_1 : decode cX8_findOne 1 = .ok (.iload_n 1, 1) := by decide +kernel
theorem dX8_findOne_2 : decode cX8_findOne 2 = .ok (.iload_n 2, 1) := by decide +kernel
theorem dX8_findOne_3 : decode cX8_findOne 3 = .ok (.iconst 0, 1) := by decide +kernel
theorem dX8_findOne_4 : decode cX8_findOne 4 = .ok (.invokevirtual 109, 3) := by decide +kernel
theorem dX8_findOne_7 : decode cX8_findOne 7 = .ok (.istore_n 3, 1) := by decide +kernel
theorem dX8_findOne_8 : decode cX8_findOne 8 = .ok (.iload_n 3, 1) := by decide +kernel
theorem dX8_findOne_9 : decode cX8_findOne 9 = .ok (.ifCond .ne 28, 3) := by decide +kernel
theorem dX8_findOne_12 : decode cX8_findOne 12 = .ok (.aload_n 0, 1) := by decide +kernel
theorem dX8_findOne_13 : decode cX8_findOne 13 = .ok (.getfield 17, 3) := by decide +kernel
theorem dX8_findOne_16 : decode cX8_findOne 16 = .ok (.iload_n 1, 1) := by decide +kernel
theorem dX8_findOne_17 : decode cX8_findOne 17 = .ok (.aaload, 1) := by decide +kernel
theorem dX8_findOne_18 : decode cX8_findOne 18 = .ok (.astore 4, 2) := by decide +kernel
theorem dX8_findOne_20 : decode cX8_findOne 20 = .ok (.aload 4, 2) := by decide +kernel
theorem dX8_findOne_22 : decode cX8_findOne 22 = .ok (.aload 4, 2) := by decide +kernel
theorem dX8_findOne_24 : decode cX8_findOne 24 = .ok (.iconst 4, 1) := by decide +kernel
theorem dX8_findOne_25 : decode cX8_findOne 25 = .ok (.iconst (-1), 1) := by decide +kernel
theorem dX8_findOne_26 : decode cX8_findOne 26 = .ok (.iload_n 2, 1) := by decide +kernel
theorem dX8_findOne_27 : decode cX8_findOne 27 = .ok (.aload_n 0, 1) := by decide +kernel
theorem dX8_findOne_28 : decode cX8_findOne 28 = .ok (.getfield 29, 3) := by decide +kernel
theorem dX8_findOne_31 : decode cX8_findOne 31 = .ok (.invokevirtual 116, 3) := by decide +kernel
theorem dX8_findOne_34 : decode cX8_findOne 34 = .ok (.invokevirtual 131, 3) := by decide +kernel
theorem dX8_findOne_37 : decode cX8_findOne 37 = .ok (.iload_n 3, 1) := by decide +kernel
theorem dX8_findOne_38 : decode cX8_findOne 38 = .ok (.ireturn, 1) := by decide +kernel
theorem dX8_passForged_0 : decode cX8_passForged 0 = .ok (.aload_n 0, 1) := by decide +kernel
theorem dX8_passForged_1 : decode cX8_passForged 1 = .ok (.iload_n 1, 1) := by decide +kernel
theorem dX8_passForged_2 : decode cX8_passForged 2 = .ok (.invokevirtual 68, 3) := by decide +kernel
theorem dX8_passForged_5 : decode cX8_passForged 5 = .ok (.ifCond .eq 23, 3) := by decide +kernel
theorem dX8_passForged_8 : decode cX8_passForged 8 = .ok (.iload_n 2, 1) := by decide +kernel
theorem dX8_passForged_9 : decode cX8_passForged 9 = .ok (.invokestatic 94, 3) := by decide +kernel
theorem dX8_passForged_12 : decode cX8_passForged 12 = .ok (.ifCond .eq 16, 3) := by decide +kernel
theorem dX8_passForged_15 : decode cX8_passForged 15 = .ok (.iload_n 2, 1) := by decide +kernel
theorem dX8_passForged_16 : decode cX8_passForged 16 = .ok (.aload_n 0, 1) := by decide +kernel
theorem dX8_passForged_17 : decode cX8_passForged 17 = .ok (.getfield 17, 3) := by decide +kernel
theorem dX8_passForged_20 : decode cX8_passForged 20 = .ok (.iload_n 1, 1) := by decide +kernel
theorem dX8_passForged_21 : decode cX8_passForged 21 = .ok (.aaload, 1) := by decide +kernel
theorem dX8_passForged_22 : decode cX8_passForged 22 = .ok (.getfield 113, 3) := by decide +kernel
theorem dX8_passForged_25 : decode cX8_passForged 25 = .ok (.if_icmp .ne 6, 3) := by decide +kernel
theorem dX8_passForged_28 : decode cX8_passForged 28 = .ok (.bipush 30, 2) := by decide +kernel
theorem dX8_passForged_30 : decode cX8_passForged 30 = .ok (.ireturn, 1) := by decide +kernel
theorem dX8_passForged_31 : decode cX8_passForged 31 = .ok (.aload_n 0, 1) := by decide +kernel
theorem dX8_passForged_32 : decode cX8_passForged 32 = .ok (.iload_n 1, 1) := by decide +kernel
theorem dX8_passForged_33 : decode cX8_passForged 33 = .ok (.iload_n 3, 1) := by decide +kernel
theorem dX8_passForged_34 : decode cX8_passForged 34 = .ok (.iload 4, 2) := by decide +kernel
theorem dX8_passForged_36 : decode cX8_passForged 36 = .ok (.invokevirtual 109, 3) := by decide +kernel
theorem dX8_passForged_39 : decode cX8_passForged 39 = .ok (.istore 6, 2) := by decide +kernel
theorem dX8_passForged_41 : decode cX8_passForged 41 = .ok (.iload 6, 2) := by decide +kernel
theorem dX8_passForged_43 : decode cX8_passForged 43 = .ok (.ifCond .ne 46, 3) := by decide +kernel
theorem dX8_passForged_46 : decode cX8_passForged 46 = .ok (.aload_n 0, 1) := by decide +kernel
theorem dX8_passForged_47 : decode cX8_passForged 47 = .ok (.getfield 17, 3) := by decide +kernel
theorem dX8_passForged_50 : decode cX8_passForged 50 = .ok (.iload_n 1, 1) := by decide +kernel
theorem dX8_passForged_51 : decode cX8_passForged 51 = .ok (.aaload, 1) := by decide +kernel
theorem dX8_passForged_52 : decode cX8_passForged 52 = .ok (.astore 7, 2) := by decide +kernel
theorem dX8_passForged_54 : decode cX8_passForged 54 = .ok (.aload 7, 2) := by decide +kernel
theorem dX8_passForged_56 : decode cX8_passForged 56 = .ok (.iconst 1, 1) := by decide +kernel
theorem dX8_passForged_57 : decode cX8_passForged 57 = .ok (.iload_n 2, 1) := by decide +kernel
theorem dX8_passForged_58 : decode cX8_passForged 58 = .ok (.iload_n 3, 1) := by decide +kernel
theorem dX8_passForged_59 : decode cX8_passForged 59 = .ok (.aload_n 0, 1) := by decide +kernel
theorem dX8_passForged_60 : decode cX8_passForged 60 = .ok (.getfield 29, 3) := by decide +kernel
theorem dX8_passForged_63 : decode cX8_passForged 63 = .ok (.invokevirtual 116, 3) := by decide +kernel
theorem dX8_passForged_66 : decode cX8_passForged 66 = .ok (.astore 8, 2) := by decide +kernel
theorem dX8_passForged_68 : decode cX8_passForged 68 = .ok (.aload 8, 2) := by decide +kernel
theorem dX8_passForged_70 : decode cX8_passForged 70 = .ok (.iload 4, 2) := by decide +kernel
theorem dX8_passForged_72 : decode cX8_passForged 72 = .ok (.putfield 120, 3) := by decide +kernel
theorem dX8_passForged_75 : decode cX8_passForged 75 = .ok (.aload 8, 2) := by decide +kernel
theorem dX8_passForged_77 : decode cX8_passForged 77 = .ok (.iload 5, 2) := by decide +kernel
theorem dX8_passForged_79 : decode cX8_passForged 79 = .ok (.putfield 125, 3) := by decide +kernel
theorem dX8_passForged_82 : decode cX8_passForged 82 = .ok (.aload 7, 2) := by decide +kernel
theorem dX8_passForged_84 : decode cX8_passForged 84 = .ok (.aload 8, 2) := by decide +kernel
theorem dX8_passForged_86 : decode cX8_passForged 86 = .ok (.invokevirtual 131, 3) := by decide +kernel
theorem dX8_passForged_89 : decode cX8_passForged 89 = .ok (.iload 6, 2) := by decide +kernel
theorem dX8_passForged_91 : decode cX8_passForged 91 = .ok (.ireturn, 1) := by decide +kernel
theorem dX8_passOn_0 : decode cX8_passOn 0 = .ok (.iload_n 2, 1) := by decide +kernel
theorem dX8_passOn_1 : decode cX8_passOn 1 = .ok (.ifCond .lt 18, 3) := by decide +kernel
theorem dX8_passOn_4 : decode cX8_passOn 4 = .ok (.iload_n 2, 1) := by decide +kernel
theorem dX8_passOn_5 : decode cX8_passOn 5 = .ok (.iconst 3, 1) := by decide +kernel
theorem dX8_passOn_6 : decode cX8_passOn 6 = .ok (.if_icmp .gt 13, 3) := by decide +kernel
theorem dX8_passOn_9 : decode cX8_passOn 9 = .ok (.iload 6, 2) := by decide +kernel
theorem dX8_passOn_11 : decode cX8_passOn 11 = .ok (.ifCond .eq 11, 3) := by decide +kernel
theorem dX8_passOn_14 : decode cX8_passOn 14 = .ok (.iload_n 2, 1) := by decide +kernel
theorem dX8_passOn_15 : decode cX8_passOn 15 = .ok (.iconst 3, 1) := by decide +kernel
theorem dX8_passOn_16 : decode cX8_passOn 16 = .ok (.if_icmp .ne 6, 3) := by decide +kernel
theorem dX8_passOn_19 : decode cX8_passOn 19 = .ok (.bipush 30, 2) := by decide +kernel
theorem dX8_passOn_21 : decode cX8_passOn 21 = .ok (.ireturn, 1) := by decide +kernel
theorem dX8_passOn_22 : decode cX8_passOn 22 = .ok (.aload_n 0, 1) := by decide +kernel
theorem dX8_passOn_23 : decode cX8_passOn 23 = .ok (.iload_n 1, 1) := by decide +kernel
theorem dX8_passOn_24 : decode cX8_passOn 24 = .ok (.iload_n 3, 1) := by decide +kernel
theorem dX8_passOn_25 : decode cX8_passOn 25 = .ok (.iload 4, 2) := by decide +kernel
theorem dX8_passOn_27 : decode cX8_passOn 27 = .ok (.invokevirtual 109, 3) := by decide +kernel
theorem dX8_passOn_30 : decode cX8_passOn 30 = .ok (.istore 7, 2) := by decide +kernel
theorem dX8_passOn_32 : decode cX8_passOn 32 = .ok (.iload 7, 2) := by decide +kernel
theorem dX8_passOn_34 : decode cX8_passOn 34 = .ok (.ifCond .ne 66, 3) := by decide +kernel
theorem dX8_passOn_37 : decode cX8_passOn 37 = .ok (.aload_n 0, 1) := by decide +kernel
theorem dX8_passOn_38 : decode cX8_passOn 38 = .ok (.getfield 17, 3) := by decide +kernel
theorem dX8_passOn_41 : decode cX8_passOn 41 = .ok (.iload_n 1, 1) := by decide +kernel
theorem dX8_passOn_42 : decode cX8_passOn 42 = .ok (.aaload, 1) := by decide +kernel
theorem dX8_passOn_43 : decode cX8_passOn 43 = .ok (.astore 8, 2) := by decide +kernel
theorem dX8_passOn_45 : decode cX8_passOn 45 = .ok (.aload 8, 2) := by decide +kernel
theorem dX8_passOn_47 : decode cX8_passOn 47 = .ok (.iload_n 2, 1) := by decide +kernel
theorem dX8_passOn_48 : decode cX8_passOn 48 = .ok (.iload_n 2, 1) := by decide +kernel
theorem dX8_passOn_49 : decode cX8_passOn 49 = .ok (.iconst 3, 1) := by decide +kernel
theorem dX8_passOn_50 : decode cX8_passOn 50 = .ok (.if_icmp .ne 7, 3) := by decide +kernel
theorem dX8_passOn_53 : decode cX8_passOn 53 = .ok (.iconst (-1), 1) := by decide +kernel
theorem dX8_passOn_54 : decode cX8_passOn 54 = .ok (.goto 8, 3) := by decide +kernel
theorem dX8_passOn_57 : decode cX8_passOn 57 = .ok (.aload 8, 2) := by decide +kernel
theorem dX8_passOn_59 : decode cX8_passOn 59 = .ok (.getfield 113, 3) := by decide +kernel
theorem dX8_passOn_62 : decode cX8_passOn 62 = .ok (.iload_n 3, 1) := by decide +kernel
theorem dX8_passOn_63 : decode cX8_passOn 63 = .ok (.aload_n 0, 1) := by decide +kernel
theorem dX8_passOn_64 : decode cX8_passOn 64 = .ok (.getfield 29, 3) := by decide +kernel
theorem dX8_passOn_67 : decode cX8_passOn 67 = .ok (.invokevirtual 116, 3) := by decide +kernel
theorem dX8_passOn_70 : decode cX8_passOn 70 = .ok (.astore 9, 2) := by decide +kernel
theorem dX8_passOn_72 : decode cX8_passOn 72 = .ok (.aload 9, 2) := by decide +kernel
theorem dX8_passOn_74 : decode cX8_passOn 74 = .ok (.iload 4, 2) := by decide +kernel
theorem dX8_passOn_76 : decode cX8_passOn 76 = .ok (.putfield 120, 3) := by decide +kernel
theorem dX8_passOn_79 : decode cX8_passOn 79 = .ok (.aload 9, 2) := by decide +kernel
theorem dX8_passOn_81 : decode cX8_passOn 81 = .ok (.iload 5, 2) := by decide +kernel
theorem dX8_passOn_83 : decode cX8_passOn 83 = .ok (.putfield 125, 3) := by decide +kernel
theorem dX8_passOn_86 : decode cX8_passOn 86 = .ok (.aload 9, 2) := by decide +kernel
theorem dX8_passOn_88 : decode cX8_passOn 88 = .ok (.iload 6, 2) := by decide +kernel
theorem dX8_passOn_90 : decode cX8_passOn 90 = .ok (.putfield 128, 3) := by decide +kernel
theorem dX8_passOn_93 : decode cX8_passOn 93 = .ok (.aload 8, 2) := by decide +kernel
theorem dX8_passOn_95 : decode cX8_passOn 95 = .ok (.aload 9, 2) := by decide +kernel
theorem dX8_passOn_97 : decode cX8_passOn 97 = .ok (.invokevirtual 131, 3) := by decide +kernel
theorem dX8_passOn_100 : decode cX8_passOn 100 = .ok (.iload 7, 2) := by decide +kernel
theorem dX8_passOn_102 : decode cX8_passOn 102 = .ok (.ireturn, 1) := by decide +kernel
theorem dX8_whyNoStep_0 : decode cX8_whyNoStep 0 = .ok (.aload_n 0, 1) := by decide +kernel
theorem dX8_whyNoStep_1 : decode cX8_whyNoStep 1 = .ok (.iload_n 1, 1) := by decide +kernel
theorem dX8_whyNoStep_2 : decode cX8_whyNoStep 2 = .ok (.invokevirtual 68, 3) := by decide +kernel
theorem dX8_whyNoStep_5 : decode cX8_whyNoStep 5 = .ok (.ifCond .eq 21, 3) := by decide +kernel
theorem dX8_whyNoStep_8 : decode cX8_whyNoStep 8 = .ok (.iload_n 2, 1) := by decide +kernel
theorem dX8_whyNoStep_9 : decode cX8_whyNoStep 9 = .ok (.invokestatic 94, 3) := by decide +kernel
theorem dX8_whyNoStep_12 : decode cX8_whyNoStep 12 = .ok (.ifCond .eq 14, 3) := by decide +kernel
theorem dX8_whyNoStep_15 : decode cX8_whyNoStep 15 = .ok (.iload_n 3, 1) := by decide +kernel
theorem dX8_whyNoStep_16 : decode cX8_whyNoStep 16 = .ok (.ifCond .lt 10, 3) := by decide +kernel
theorem dX8_whyNoStep_19 : decode cX8_whyNoStep 19 = .ok (.iload_n 3, 1) := by decide +kernel
theorem dX8_whyNoStep_20 : decode cX8_whyNoStep 20 = .ok (.sipush 999, 3) := by decide +kernel
theorem dX8_whyNoStep_23 : decode cX8_whyNoStep 23 = .ok (.if_icmp .le 6, 3) := by decide +kernel
theorem dX8_whyNoStep_26 : decode cX8_whyNoStep 26 = .ok (.bipush 30, 2) := by decide +kernel
theorem dX8_whyNoStep_28 : decode cX8_whyNoStep 28 = .ok (.ireturn, 1) := by decide +kernel
theorem dX8_whyNoStep_29 : decode cX8_whyNoStep 29 = .ok (.aload_n 0, 1) := by decide +kernel
theorem dX8_whyNoStep_30 : decode cX8_whyNoStep 30 = .ok (.getfield 17, 3) := by decide +kernel
theorem dX8_whyNoStep_33 : decode cX8_whyNoStep 33 = .ok (.iload_n 1, 1) := by decide +kernel
theorem dX8_whyNoStep_34 : decode cX8_whyNoStep 34 = .ok (.aaload, 1) := by decide +kernel
theorem dX8_whyNoStep_35 : decode cX8_whyNoStep 35 = .ok (.iload_n 2, 1) := by decide +kernel
theorem dX8_whyNoStep_36 : decode cX8_whyNoStep 36 = .ok (.invokevirtual 135, 3) := by decide +kernel
theorem dX8_whyNoStep_39 : decode cX8_whyNoStep 39 = .ok (.ireturn, 1) := by decide +kernel
