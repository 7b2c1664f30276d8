theorem dX10_passes_20 : decode cX10_passes 20 = .ok (.ireturn, 1) := by decide +kernel
theorem dX10_passes_21 : decode cX10_passes 21 = .ok (.aload_n 0, 1) := by decide +kernel
theorem dX10_passes_22 : decode cX10_passes 22 = .ok (.iload_n 1, 1) := by decide +kernel
theorem dX10_passes_23 : decode cX10_passes 23 = .ok (.iload 4, 2) := by decide +kernel
theorem dX10_passes_25 : decode cX10_passes 25 = .ok (.iload 5, 2) := by decide +kernel
theorem dX10_passes_27 : decode cX10_passes 27 = .ok (.invokevirtual 122, 3) := by decide +kernel
theorem dX10_passes_30 : decode cX10_passes 30 = .ok (.istore 7, 2) := by decide +kernel
theorem dX10_passes_32 : decode cX10_passes 32 = .ok (.iload 7, 2) := by decide +kernel
theorem dX10_passes_34 : decode cX10_passes 34 = .ok (.ifCond .le 6, 3) := by decide +kernel
theorem dX10_passes_37 : decode cX10_passes 37 = .ok (.iload 7, 2) := by decide +kernel
theorem dX10_passes_39 : decode cX10_passes 39 = .ok (.ireturn, 1) := by decide +kernel
theorem dX10_passes_40 : decode cX10_passes 40 = .ok (.iconst 0, 1) := by decide +kernel
theorem dX10_passes_41 : decode cX10_passes 41 = .ok (.iload_n 1, 1) := by decide +kernel
theorem dX10_passes_42 : decode cX10_passes 42 = .ok (.invokestatic 109, 3) := by decide +kernel
theorem dX10_passes_45 : decode cX10_passes 45 = .ok (.istore 8, 2) := by decide +kernel
theorem dX10_passes_47 : decode cX10_passes 47 = .ok (.aload_n 0, 1) := by decide +kernel
theorem dX10_passes_48 : decode cX10_passes 48 = .ok (.iconst 0, 1) := by decide +kernel
theorem dX10_passes_49 : decode cX10_passes 49 = .ok (.iload 8, 2) := by decide +kernel
theorem dX10_passes_51 : decode cX10_passes 51 = .ok (.iload_n 2, 1) := by decide +kernel
theorem dX10_passes_52 : decode cX10_passes 52 = .ok (.aload_n 0, 1) := by decide +kernel
theorem dX10_passes_53 : decode cX10_passes 53 = .ok (.getfield 7, 3) := by decide +kernel
theorem dX10_passes_56 : decode cX10_passes 56 = .ok (.iload 8, 2) := by decide +kernel
theorem dX10_passes_58 : decode cX10_passes 58 = .ok (.bipush 7, 2) := by decide +kernel
theorem dX10_passes_60 : decode cX10_passes 60 = .ok (.iadd, 1) := by decide +kernel
theorem dX10_passes_61 : decode cX10_passes 61 = .ok (.iaload, 1) := by decide +kernel
theorem dX10_passes_62 : decode cX10_passes 62 = .ok (.iload_n 2, 1) := by decide +kernel
theorem dX10_passes_63 : decode cX10_passes 63 = .ok (.iconst 3, 1) := by decide +kernel
theorem dX10_passes_64 : decode cX10_passes 64 = .ok (.if_icmp .ne 7, 3) := by decide +kernel
theorem dX10_passes_67 : decode cX10_passes 67 = .ok (.iconst (-1), 1) := by decide +kernel
theorem dX10_passes_68 : decode cX10_passes 68 = .ok (.goto 13, 3) := by decide +kernel
theorem dX10_passes_71 : decode cX10_passes 71 = .ok (.aload_n 0, 1) := by decide +kernel
theorem dX10_passes_72 : decode cX10_passes 72 = .ok (.getfield 7, 3) := by decide +kernel
theorem dX10_passes_75 : decode cX10_passes 75 = .ok (.iload 8, 2) := by decide +kernel
theorem dX10_passes_77 : decode cX10_passes 77 = .ok (.bipush 7, 2) := by decide +kernel
theorem dX10_passes_79 : decode cX10_passes 79 = .ok (.iadd, 1) := by decide +kernel
theorem dX10_passes_80 : decode cX10_passes 80 = .ok (.iaload, 1) := by decide +kernel
theorem dX10_passes_81 : decode cX10_passes 81 = .ok (.iload 4, 2) := by decide +kernel
theorem dX10_passes_83 : decode cX10_passes 83 = .ok (.iload 5, 2) := by decide +kernel
theorem dX10_passes_85 : decode cX10_passes 85 = .ok (.iload 6, 2) := by decide +kernel
theorem dX10_passes_87 : decode cX10_passes 87 = .ok (.iload_n 3, 1) := by decide +kernel
theorem dX10_passes_88 : decode cX10_passes 88 = .ok (.invokevirtual 125, 3) := by decide +kernel
theorem dX10_passes_91 : decode cX10_passes 91 = .ok (.ireturn, 1) := by decide +kernel
theorem dX10_paysNow_0 : decode cX10_paysNow 0 = .ok (.aload_n 0, 1) := by decide +kernel
theorem dX10_paysNow_1 : decode cX10_paysNow 1 = .ok (.iload_n 1, 1) := by decide +kernel
theorem dX10_paysNow_2 : decode cX10_paysNow 2 = .ok (.invokevirtual 116, 3) := by decide +kernel
theorem dX10_paysNow_5 : decode cX10_paysNow 5 = .ok (.ifCond .eq 30, 3) := by decide +kernel
theorem dX10_paysNow_8 : decode cX10_paysNow 8 = .ok (.aload_n 0, 1) := by decide +kernel
theorem dX10_paysNow_9 : decode cX10_paysNow 9 = .ok (.iconst 0, 1) := by decide +kernel
theorem dX10_paysNow_10 : decode cX10_paysNow 10 = .ok (.iload_n 1, 1) := by decide +kernel
theorem dX10_paysNow_11 : decode cX10_paysNow 11 = .ok (.invokestatic 109, 3) := by decide +kernel
theorem dX10_paysNow_14 : decode cX10_paysNow 14 = .ok (.iload_n 2, 1) := by decide +kernel
theorem dX10_paysNow_15 : decode cX10_paysNow 15 = .ok (.invokevirtual 140, 3) := by decide +kernel
theorem dX10_paysNow_18 : decode cX10_paysNow 18 = .ok (.ifCond .eq 17, 3) := by decide +kernel
theorem dX10_paysNow_21 : decode cX10_paysNow 21 = .ok (.aload_n 0, 1) := by decide +kernel
theorem dX10_paysNow_22 : decode cX10_paysNow 22 = .ok (.iconst 0, 1) := by decide +kernel
theorem dX10_paysNow_23 : decode cX10_paysNow 23 = .ok (.iconst 0, 1) := by decide +kernel
theorem dX10_paysNow_24 : decode cX10_paysNow 24 = .ok (.iload_n 1, 1) := by decide +kernel
theorem dX10_paysNow_25 : decode cX10_paysNow 25 = .ok (.invokestatic 109, 3) := by decide +kernel
theorem dX10_paysNow_28 : decode cX10_paysNow 28 = .ok (.iload_n 2, 1) := by decide +kernel
theorem dX10_paysNow_29 : decode cX10_paysNow 29 = .ok (.invokevirtual 150, 3) := by decide +kernel
theorem dX10_paysNow_32 : decode cX10_paysNow 32 = .ok (.goto 5, 3) := by decide +kernel
theorem dX10_paysNow_35 : decode cX10_paysNow 35 = .ok (.bipush 30, 2) := by decide +kernel
theorem dX10_paysNow_37 : decode cX10_paysNow 37 = .ok (.ireturn, 1) := by decide +kernel
theorem dX10_presents_0 : decode cX10_presents 0 = .ok (.aload_n 0, 1) := by decide +kernel
theorem dX10_presents_1 : decode cX10_presents 1 = .ok (.iload_n 1, 1) := by decide +kernel
theorem dX10_presents_2 : decode cX10_presents 2 = .ok (.invokevirtual 116, 3) := by decide +kernel
theorem dX10_presents_5 : decode cX10_presents 5 = .ok (.ifCond .ne 6, 3) := by decide +kernel
theorem dX10_presents_8 : decode cX10_presents 8 = .ok (.bipush 30, 2) := by decide +kernel
theorem dX10_presents_10 : decode cX10_presents 10 = .ok (.ireturn, 1) := by decide +kernel
theorem dX10_presents_11 : decode cX10_presents 11 = .ok (.iconst 0, 1) := by decide +kernel
theorem dX10_presents_12 : decode cX10_presents 12 = .ok (.iload_n 1, 1) := by decide +kernel
theorem dX10_presents_13 : decode cX10_presents 13 = .ok (.invokestatic 109, 3) := by decide +kernel
theorem dX10_presents_16 : decode cX10_presents 16 = .ok (.istore_n 2, 1) := by decide +kernel
theorem dX10_presents_17 : decode cX10_presents 17 = .ok (.aload_n 0, 1) := by decide +kernel
theorem dX10_presents_18 : decode cX10_presents 18 = .ok (.getfield 7, 3) := by decide +kernel
theorem dX10_presents_21 : decode cX10_presents 21 = .ok (.iconst 0, 1) := by decide +kernel
theorem dX10_presents_22 : decode cX10_presents 22 = .ok (.iaload, 1) := by decide +kernel
theorem dX10_presents_23 : decode cX10_presents 23 = .ok (.aload_n 0, 1) := by decide +kernel
theorem dX10_presents_24 : decode cX10_presents 24 = .ok (.getfield 7, 3) := by decide +kernel
theorem dX10_presents_27 : decode cX10_presents 27 = .ok (.iload_n 2, 1) := by decide +kernel
theorem dX10_presents_28 : decode cX10_presents 28 = .ok (.iconst 4, 1) := by decide +kernel
theorem dX10_presents_29 : decode cX10_presents 29 = .ok (.iadd, 1) := by decide +kernel
theorem dX10_presents_30 : decode cX10_presents 30 = .ok (.iaload, 1) := by decide +kernel
theorem dX10_presents_31 : decode cX10_presents 31 = .ok (.if_icmp .lt 37, 3) := by decide +kernel
theorem dX10_presents_34 : decode cX10_presents 34 = .ok (.aload_n 0, 1) := by decide +kernel
theorem dX10_presents_35 : decode cX10_presents 35 = .ok (.getfield 7, 3) := by decide +kernel
theorem dX10_presents_38 : decode cX10_presents 38 = .ok (.iload_n 2, 1) := by decide +kernel
theorem dX10_presents_39 : decode cX10_presents 39 = .ok (.bipush 10, 2) := by decide +kernel
theorem dX10_presents_41 : decode cX10_presents 41 = .ok (.iadd, 1) := by decide +kernel
theorem dX10_presents_42 : decode cX10_presents 42 = .ok (.iaload, 1) := by decide +kernel
theorem dX10_presents_43 : decode cX10_presents 43 = .ok (.iconst 1, 1) := by decide +kernel
theorem dX10_presents_44 : decode cX10_presents 44 = .ok (.if_icmp .eq 24, 3) := by decide +kernel
theorem dX10_presents_47 : decode cX10_presents 47 = .ok (.aload_n 0, 1) := by decide +kernel
theorem dX10_presents_48 : decode cX10_presents 48 = .ok (.getfield 7, 3) := by decide +kernel
theorem dX10_presents_51 : decode cX10_presents 51 = .ok (.iload_n 2, 1) := by decide +kernel
theorem dX10_presents_52 : decode cX10_presents 52 = .ok (.bipush 9, 2) := by decide +kernel
theorem dX10_presents_54 : decode cX10_presents 54 = .ok (.iadd, 1) := by decide +kernel
theorem dX10_presents_55 : decode cX10_presents 55 = .ok (.iaload, 1) := by decide +kernel
theorem dX10_presents_56 : decode cX10_presents 56 = .ok (.iconst (-1), 1) := by decide +kernel
theorem dX10_presents_57 : decode cX10_presents 57 = .ok (.if_icmp .ne 11, 3) := by decide +kernel
theorem dX10_presents_60 : decode cX10_presents 60 = .ok (.aload_n 0, 1) := by decide +kernel
theorem dX10_presents_61 : decode cX10_presents 61 = .ok (.iload_n 2, 1) := by decide +kernel
theorem dX10_presents_62 : decode cX10_presents 62 = .ok (.invokevirtual 70, 3) := by decide +kernel
theorem dX10_presents_65 : decode cX10_presents 65 = .ok (.ifCond .ne 6, 3) := by decide +kernel
theorem dX10_presents_68 : decode cX10_presents 68 = .ok (.bipush 31, 2) := by decide +kernel
theorem dX10_presents_70 : decode cX10_presents 70 = .ok (.ireturn, 1) := by decide +kernel
theorem dX10_presents_71 : decode cX10_presents 71 = .ok (.aload_n 0, 1) := by decide +kernel
theorem dX10_presents_72 : decode cX10_presents 72 = .ok (.iconst 0, 1) := by decide +kernel
theorem dX10_presents_73 : decode cX10_presents 73 = .ok (.iload_n 2, 1) := by decide +kernel
theorem dX10_presents_74 : decode cX10_presents 74 = .ok (.iconst 0, 1) := by decide +kernel
theorem dX10_presents_75 : decode cX10_presents 75 = .ok (.invokevirtual 150, 3) := by decide +kernel
theorem dX10_presents_78 : decode cX10_presents 78 = .ok (.ifCond .ne 5, 3) := by decide +kernel
theorem dX10_presents_81 : decode cX10_presents 81 = .ok (.iconst 0, 1) := by decide +kernel
theorem dX10_presents_82 : decode cX10_presents 82 = .ok (.ireturn, 1) := by decide +kernel
theorem dX10_presents_83 : decode cX10_presents 83 = .ok (.aload_n 0, 1) := by decide +kernel
theorem dX10_presents_84 : decode cX10_presents 84 = .ok (.getfield 7, 3) := by decide +kernel
theorem dX10_presents_87 : decode cX10_presents 87 = .ok (.iload_n 2, 1) := by decide +kernel
theorem dX10_presents_88 : decode cX10_presents 88 = .ok (.bipush 9, 2) := by decide +kernel
theorem dX10_presents_90 : decode cX10_presents 90 = .ok (.iadd, 1) := by decide +kernel
theorem dX10_presents_91 : decode cX10_presents 91 = .ok (.aload_n 0, 1) := by decide +kernel
theorem dX10_presents_92 : decode cX10_presents 92 = .ok (.getfield 7, 3) := by decide +kernel
theorem dX10_presents_95 : decode cX10_presents 95 = .ok (.iconst 0, 1) := by decide +kernel
theorem dX10_presents_96 : decode cX10_presents 96 = .ok (.iaload, 1) := by decide +kernel
theorem dX10_presents_97 : decode cX10_presents 97 = .ok (.iastore, 1) := by decide +kernel
theorem dX10_presents_98 : decode cX10_presents 98 = .ok (.iconst 1, 1) := by decide +kernel
theorem dX10_presents_99 : decode cX10_presents 99 = .ok (.ireturn, 1) := by decide +kernel
theorem dX10_releases_0 : decode cX10_releases 0 = .ok (.aload_n 0, 1) := by decide +kernel
theorem dX10_releases_1 : decode cX10_releases 1 = .ok (.iload_n 1, 1) := by decide +kernel
theorem dX10_releases_2 : decode cX10_releases 2 = .ok (.iload_n 2, 1) := by decide +kernel
theorem dX10_releases_3 : decode cX10_releases 3 = .ok (.invokevirtual 143, 3) := by decide +kernel
theorem dX10_releases_6 : decode cX10_releases 6 = .ok (.ifCond .ne 6, 3) := by decide +kernel
theorem dX10_releases_9 : decode cX10_releases 9 = .ok (.bipush 30, 2) := by decide +kernel
theorem dX10_releases_11 : decode cX10_releases 11 = .ok (.ireturn, 1) := by decide +kernel
theorem dX10_releases_12 : decode cX10_releases 12 = .ok (.iconst 0, 1) := by decide +kernel
theorem dX10_releases_13 : decode cX10_releases 13 = .ok (.iload_n 1, 1) := by decide +kernel
theorem dX10_releases_14 : decode cX10_releases 14 = .ok (.invokestatic 109, 3) := by decide +kernel
theorem dX10_releases_17 : decode cX10_releases 17 = .ok (.istore_n 3, 1) := by decide +kernel
theorem dX10_releases_18 : decode cX10_releases 18 = .ok (.aload_n 0, 1) := by decide +kernel
theorem dX10_releases_19 : decode cX10_releases 19 = .ok (.iload_n 3, 1) := by decide +kernel
theorem dX10_releases_20 : decode cX10_releases 20 = .ok (.invokevirtual 70, 3) := by decide +kernel
theorem dX10_releases_23 : decode cX10_releases 23 = .ok (.ifCond .eq 31, 3) := by decide +kernel
theorem dX10_releases_26 : decode cX10_releases 26 = .ok (.aload_n 0, 1) := by decide +kernel
theorem dX10_releases_27 : decode cX10_releases 27 = .ok (.getfield 7, 3) := by decide +kernel
theorem dX10_releases_30 : decode cX10_releases 30 = .ok (.iload_n 3, 1) := by decide +kernel
theorem dX10_releases_31 : decode cX10_releases 31 = .ok (.iload_n 2, 1) := by decide +kernel
theorem dX10_releases_32 : decode cX10_releases 32 = .ok (.invokestatic 56, 3) := by decide +kernel
theorem dX10_releases_35 : decode cX10_releases 35 = .ok (.iconst 1, 1) := by decide +kernel
theorem dX10_releases_36 : decode cX10_releases 36 = .ok (.iadd, 1) := by decide +kernel
theorem dX10_releases_37 : decode cX10_releases 37 = .ok (.iaload, 1) := by decide +kernel
theorem dX10_releases_38 : decode cX10_releases 38 = .ok (.ifCond .gt 16, 3) := by decide +kernel
theorem dX10_releases_41 : decode cX10_releases 41 = .ok (.aload_n 0, 1) := by decide +kernel
theorem dX10_releases_42 : decode cX10_releases 42 = .ok (.getfield 7, 3) := by decide +kernel
theorem dX10_releases_45 : decode cX10_releases 45 = .ok (.iload_n 3, 1) := by decide +kernel
theorem dX10_releases_46 : decode cX10_releases 46 = .ok (.bipush 10, 2) := by decide +kernel
theorem dX10_releases_48 : decode cX10_releases 48 = .ok (.iadd, 1) := by decide +kernel
theorem dX10_releases_49 : decode cX10_releases 49 = .ok (.iaload, 1) := by decide +kernel
theorem dX10_releases_50 : decode cX10_releases 50 = .ok (.iconst 1, 1) := by decide +kernel
theorem dX10_releases_51 : decode cX10_releases 51 = .ok (.if_icmp .ne 6, 3) := by decide +kernel
theorem dX10_releases_54 : decode cX10_releases 54 = .ok (.bipush 31, 2) := by decide +kernel
theorem dX10_releases_56 : decode cX10_releases 56 = .ok (.ireturn, 1) := by decide +kernel
theorem dX10_releases_57 : decode cX10_releases 57 = .ok (.aload_n 0, 1) := by decide +kernel
theorem dX10_releases_58 : decode cX10_releases 58 = .ok (.iload_n 3, 1) := by decide +kernel
theorem dX10_releases_59 : decode cX10_releases 59 = .ok (.iload_n 2, 1) := by decide +kernel
theorem dX10_releases_60 : decode cX10_releases 60 = .ok (.bipush 15, 2) := by decide +kernel
theorem dX10_releases_62 : decode cX10_releases 62 = .ok (.invokevirtual 88, 3) := by decide +kernel
theorem dX10_releases_65 : decode cX10_releases 65 = .ok (.iconst 0, 1) := by decide +kernel
theorem dX10_releases_66 : decode cX10_releases 66 = .ok (.ireturn, 1) := by decide +kernel
theorem dX10_stepReason_0 : decode cX10_stepReason 0 = .ok (.aload_n 0, 1) := by decide +kernel
theorem dX10_stepReason_1 : decode cX10_stepReason 1 = .ok (.iload_n 1, 1) := by decide +kernel
theorem dX10_stepReason_2 : decode cX10_stepReason 2 = .ok (.invokevirtual 116, 3) := by decide +kernel
theorem dX10_stepReason_5 : decode cX10_stepReason 5 = .ok (.ifCond .eq 21, 3) := by decide +kernel
theorem dX10_stepReason_8 : decode cX10_stepReason 8 = .ok (.iload_n 2, 1) := by decide +kernel
theorem dX10_stepReason_9 : decode cX10_stepReason 9 = .ok (.invokestatic 100, 3) := by decide +kernel
theorem dX10_stepReason_12 : decode cX10_stepReason 12 = .ok (.ifCond .eq 14, 3) := by decide +kernel
theorem dX10_stepReason_15 : decode cX10_stepReason 15 = .ok (.iload_n 3, 1) := by decide +kernel
theorem dX10_stepReason_16 : decode cX10_stepReason 16 = .ok (.iconst 0, 1) := by decide +kernel
theorem dX10_stepReason_17 : decode cX10_stepReason 17 = .ok (.sipush 999, 3) := by decide +kernel
theorem dX10_stepReason_20 : decode cX10_stepReason 20 = .ok (.invokestatic 33, 3) := by decide +kernel
theorem dX10_stepReason_23 : decode cX10_stepReason 23 = .ok (.ifCond .ne 6, 3) := by decide +kernel
theorem dX10_stepReason_26 : decode cX10_stepReason 26 = .ok (.bipush 30, 2) := by decide +kernel
theorem dX10_stepReason_28 : decode cX10_stepReason 28 = .ok (.ireturn, 1) := by decide +kernel
theorem dX10_stepReason_29 : decode cX10_stepReason 29 = .ok (.iconst 0, 1) := by decide +kernel
theorem dX10_stepReason_30 : decode cX10_stepReason 30 = .ok (.iload_n 1, 1) := by decide +kernel
theorem dX10_stepReason_31 : decode cX10_stepReason 31 = .ok (.invokestatic 109, 3) := by decide +kernel
theorem dX10_stepReason_34 : decode cX10_stepReason 34 = .ok (.istore 4, 2) := by decide +kernel
theorem dX10_stepReason_36 : decode cX10_stepReason 36 = .ok (.iload_n 2, 1) := by decide +kernel
theorem dX10_stepReason_37 : decode cX10_stepReason 37 = .ok (.aload_n 0, 1) := by decide +kernel
theorem dX10_stepReason_38 : decode cX10_stepReason 38 = .ok (.getfield 7, 3) := by decide +kernel
theorem dX10_stepReason_41 : decode cX10_stepReason 41 = .ok (.iload 4, 2) := by decide +kernel
theorem dX10_stepReason_43 : decode cX10_stepReason 43 = .ok (.bipush 7, 2) := by decide +kernel
theorem dX10_stepReason_45 : decode cX10_stepReason 45 = .ok (.iadd, 1) := by decide +kernel
theorem dX10_stepReason_46 : decode cX10_stepReason 46 = .ok (.iaload, 1) := by decide +kernel
theorem dX10_stepReason_47 : decode cX10_stepReason 47 = .ok (.if_icmp .eq 18, 3) := by decide +kernel
theorem dX10_stepReason_50 : decode cX10_stepReason 50 = .ok (.aload_n 0, 1) := by decide +kernel
theorem dX10_stepReason_51 : decode cX10_stepReason 51 = .ok (.getfield 7, 3) := by decide +kernel
theorem dX10_stepReason_54 : decode cX10_stepReason 54 = .ok (.iload 4, 2) := by decide +kernel
theorem dX10_stepReason_56 : decode cX10_stepReason 56 = .ok (.bipush 8, 2) := by decide +kernel
theorem dX10_stepReason_58 : decode cX10_stepReason 58 = .ok (.iadd, 1) := by decide +kernel
theorem dX10_stepReason_59 : decode cX10_stepReason 59 = .ok (.iaload, 1) := by decide +kernel
theorem dX10_stepReason_60 : decode cX10_stepReason 60 = .ok (.bipush 12, 2) := by decide +kernel
theorem dX10_stepReason_62 : decode cX10_stepReason 62 = .ok (.if_icmp .ne 6, 3) := by decide +kernel
theorem dX10_stepReason_65 : decode cX10_stepReason 65 = .ok (.bipush 30, 2) := by decide +kernel
theorem dX10_stepReason_67 : decode cX10_stepReason 67 = .ok (.ireturn, 1) := by decide +kernel
theorem dX10_stepReason_68 : decode cX10_stepReason 68 = .ok (.aload_n 0, 1) := by decide +kernel
theorem dX10_stepReason_69 : decode cX10_stepReason 69 = .ok (.getfield 7, 3) := by decide +kernel
theorem dX10_stepReason_72 : decode cX10_stepReason 72 = .ok (.iload 4, 2) := by decide +kernel
theorem dX10_stepReason_74 : decode cX10_stepReason 74 = .ok (.bipush 10, 2) := by decide +kernel
theorem dX10_stepReason_76 : decode cX10_stepReason 76 = .ok (.iadd, 1) := by decide +kernel
theorem dX10_stepReason_77 : decode cX10_stepReason 77 = .ok (.iaload, 1) := by decide +kernel
theorem dX10_stepReason_78 : decode cX10_stepReason 78 = .ok (.iconst 1, 1) := by decide +kernel
theorem dX10_stepReason_79 : decode cX10_stepReason 79 = .ok (.if_icmp .ne 8, 3) := by decide +kernel
theorem dX10_stepReason_82 : decode cX10_stepReason 82 = .ok (.bipush 31, 2) := by decide +kernel
theorem dX10_stepReason_84 : decode cX10_stepReason 84 = .ok (.goto 4, 3) := by decide +kernel
theorem dX10_stepReason_87 : decode cX10_stepReason 87 = .ok (.iconst 0, 1) := by decide +kernel
theorem dX10_stepReason_88 : decode cX10_stepReason 88 = .ok (.ireturn, 1) := by decide +kernel
theorem dX10_told_0 : decode cX10_told 0 = .ok (.aload_n 0, 1) := by decide +kernel
theorem dX10_told_1 : decode cX10_told 1 = .ok (.getfield 7, 3) := by decide +kernel
theorem dX10_told_4 : decode cX10_told 4 = .ok (.iconst 5, 1) := by decide +kernel
theorem dX10_told_5 : decode cX10_told 5 = .ok (.iload_n 1, 1) := by decide +kernel
theorem dX10_told_6 : decode cX10_told 6 = .ok (.iastore, 1) := by decide +kernel
theorem dX10_told_7 : decode cX10_told 7 = .ok (.aload_n 0, 1) := by decide +kernel
theorem dX10_told_8 : decode cX10_told 8 = .ok (.getfield 7, 3) := by decide +kernel
theorem dX10_told_11 : decode cX10_told 11 = .ok (.iconst 4, 1) := by decide +kernel
theorem dX10_told_12 : decode cX10_told 12 = .ok (.dup2, 1) := by decide +kernel
theorem dX10_told_13 : decode cX10_told 13 = .ok (.iaload, 1) := by decide +kernel
theorem dX10_told_14 : decode cX10_told 14 = .ok (.iload_n 1, 1) := by decide +kernel
theorem dX10_told_15 : decode cX10_told 15 = .ok (.ifCond .le 7, 3) := by decide +kernel
theorem dX10_told_18 : decode cX10_told 18 = .ok (.iconst 1, 1) := by decide +kernel
theorem dX10_told_19 : decode cX10_told 19 = .ok (.goto 4, 3) := by decide +kernel
theorem dX10_told_22 : decode cX10_told 22 = .ok (.iconst 0, 1) := by decide +kernel
theorem dX10_told_23 : decode cX10_told 23 = .ok (.iadd, 1) := by decide +kernel
theorem dX10_told_24 : decode cX10_told 24 = .ok (.iastore, 1) := by decide +kernel
theorem dX10_told_25 : decode cX10_told 25 = .ok (.iload_n 1, 1) := by decide +kernel
theorem dX10_told_26 : decode cX10_told 26 = .ok (.ireturn, 1) := by decide +kernel
