theorem dX1_binds_0 : decode cX1_binds 0 = .ok (.iconst 0, 1) := by decide +kernel
theorem dX1_binds_1 : decode cX1_binds 1 = .ok (.istore_n 3, 1) := by decide +kernel
theorem dX1_binds_2 : decode cX1_binds 2 = .ok (.iload_n 3, 1) := by decide +kernel
theorem dX1_binds_3 : decode cX1_binds 3 = .ok (.aload_n 0, 1) := by decide +kernel
theorem dX1_binds_4 : decode cX1_binds 4 = .ok (.invokevirtual 113, 3) := by decide +kernel
theorem dX1_binds_7 : decode cX1_binds 7 = .ok (.if_icmp .ge 29, 3) := by decide +kernel
theorem dX1_binds_10 : decode cX1_binds 10 = .ok (.aload_n 0, 1) := by decide +kernel
theorem dX1_binds_11 : decode cX1_binds 11 = .ok (.iload_n 3, 1) := by decide +kernel
theorem dX1_binds_12 : decode cX1_binds 12 = .ok (.invokevirtual 117, 3) := by decide +kernel
theorem dX1_binds_15 : decode cX1_binds 15 = .ok (.iload_n 1, 1) := by decide +kernel
theorem dX1_binds_16 : decode cX1_binds 16 = .ok (.if_icmp .ne 14, 3) := by decide +kernel
theorem dX1_binds_19 : decode cX1_binds 19 = .ok (.aload_n 0, 1) := by decide +kernel
theorem dX1_binds_20 : decode cX1_binds 20 = .ok (.iload_n 3, 1) := by decide +kernel
theorem dX1_binds_21 : decode cX1_binds 21 = .ok (.iload_n 2, 1) := by decide +kernel
theorem dX1_binds_22 : decode cX1_binds 22 = .ok (.invokevirtual 187, 3) := by decide +kernel
theorem dX1_binds_25 : decode cX1_binds 25 = .ok (.ifCond .ne 5, 3) := by decide +kernel
theorem dX1_binds_28 : decode cX1_binds 28 = .ok (.iconst 1, 1) := by decide +kernel
theorem dX1_binds_29 : decode cX1_binds 29 = .ok (.ireturn, 1) := by decide +kernel
theorem dX1_binds_30 : decode cX1_binds 30 = .ok (.iinc 3 1, 3) := by decide +kernel
theorem dX1_binds_33 : decode cX1_binds 33 = .ok (.goto (-31), 3) := by decide +kernel
theorem dX1_binds_36 : decode cX1_binds 36 = .ok (.iconst 0, 1) := by decide +kernel
theorem dX1_binds_37 : decode cX1_binds 37 = .ok (.ireturn, 1) := by decide +kernel
theorem dX1_canTell_0 : decode cX1_canTell 0 = .ok (.aload_n 0, 1) := by decide +kernel
theorem dX1_canTell_1 : decode cX1_canTell 1 = .ok (.getfield 58, 3) := by decide +kernel
theorem dX1_canTell_4 : decode cX1_canTell 4 = .ok (.iconst (-1), 1) := by decide +kernel
theorem dX1_canTell_5 : decode cX1_canTell 5 = .ok (.if_icmp .ne 5, 3) := by decide +kernel
theorem dX1_canTell_8 : decode cX1_canTell 8 = .ok (.iconst 0, 1) := by decide +kernel
theorem dX1_canTell_9 : decode cX1_canTell 9 = .ok (.ireturn, 1) := by decide +kernel
theorem dX1_canTell_10 : decode cX1_canTell 10 = .ok (.iload_n 1, 1) := by decide +kernel
theorem dX1_canTell_11 : decode cX1_canTell 11 = .ok (.iconst (-1), 1) := by decide +kernel
theorem dX1_canTell_12 : decode cX1_canTell 12 = .ok (.if_icmp .ne 26, 3) := by decide +kernel
theorem dX1_canTell_15 : decode cX1_canTell 15 = .ok (.aload_n 0, 1) := by decide +kernel
theorem dX1_canTell_16 : decode cX1_canTell 16 = .ok (.invokevirtual 159, 3) := by decide +kernel
theorem dX1_canTell_19 : decode cX1_canTell 19 = .ok (.ifCond .eq 17, 3) := by decide +kernel
theorem dX1_canTell_22 : decode cX1_canTell 22 = .ok (.iload_n 2, 1) := by decide +kernel
theorem dX1_canTell_23 : decode cX1_canTell 23 = .ok (.aload_n 0, 1) := by decide +kernel
theorem dX1_canTell_24 : decode cX1_canTell 24 = .ok (.getfield 58, 3) := by decide +kernel
theorem dX1_canTell_27 : decode cX1_canTell 27 = .ok (.isub, 1) := by decide +kernel
theorem dX1_canTell_28 : decode cX1_canTell 28 = .ok (.iload_n 3, 1) := by decide +kernel
theorem dX1_canTell_29 : decode cX1_canTell 29 = .ok (.if_icmp .gt 7, 3) := by decide +kernel
theorem dX1_canTell_32 : decode cX1_canTell 32 = .ok (.iconst 1, 1) := by decide +kernel
theorem dX1_canTell_33 : decode cX1_canTell 33 = .ok (.goto 4, 3) := by decide +kernel
theorem dX1_canTell_36 : decode cX1_canTell 36 = .ok (.iconst 0, 1) := by decide +kernel
theorem dX1_canTell_37 : decode cX1_canTell 37 = .ok (.ireturn, 1) := by decide +kernel
theorem dX1_canTell_38 : decode cX1_canTell 38 = .ok (.aload_n 0, 1) := by decide +kernel
theorem dX1_canTell_39 : decode cX1_canTell 39 = .ok (.getfield 27, 3) := by decide +kernel
theorem dX1_canTell_42 : decode cX1_canTell 42 = .ok (.iload_n 1, 1) := by decide +kernel
theorem dX1_canTell_43 : decode cX1_canTell 43 = .ok (.iaload, 1) := by decide +kernel
theorem dX1_canTell_44 : decode cX1_canTell 44 = .ok (.iconst (-1), 1) := by decide +kernel
theorem dX1_canTell_45 : decode cX1_canTell 45 = .ok (.if_icmp .eq 19, 3) := by decide +kernel
theorem dX1_canTell_48 : decode cX1_canTell 48 = .ok (.iload_n 2, 1) := by decide +kernel
theorem dX1_canTell_49 : decode cX1_canTell 49 = .ok (.aload_n 0, 1) := by decide +kernel
theorem dX1_canTell_50 : decode cX1_canTell 50 = .ok (.getfield 27, 3) := by decide +kernel
theorem dX1_canTell_53 : decode cX1_canTell 53 = .ok (.iload_n 1, 1) := by decide +kernel
theorem dX1_canTell_54 : decode cX1_canTell 54 = .ok (.iaload, 1) := by decide +kernel
theorem dX1_canTell_55 : decode cX1_canTell 55 = .ok (.isub, 1) := by decide +kernel
theorem dX1_canTell_56 : decode cX1_canTell 56 = .ok (.iload_n 3, 1) := by decide +kernel
theorem dX1_canTell_57 : decode cX1_canTell 57 = .ok (.if_icmp .gt 7, 3) := by decide +kernel
theorem dX1_canTell_60 : decode cX1_canTell 60 = .ok (.iconst 1, 1) := by decide +kernel
theorem dX1_canTell_61 : decode cX1_canTell 61 = .ok (.goto 4, 3) := by decide +kernel
theorem dX1_canTell_64 : decode cX1_canTell 64 = .ok (.iconst 0, 1) := by decide +kernel
theorem dX1_canTell_65 : decode cX1_canTell 65 = .ok (.ireturn, 1) := by decide +kernel
theorem dX1_comesOf_0 : decode cX1_comesOf 0 = .ok (.iload_n 2, 1) := by decide +kernel
theorem dX1_comesOf_1 : decode cX1_comesOf 1 = .ok (.tableswitch 117 1 9 #[51, 117, 70, 117, 85, 117, 117, 92, 111], 51) := by decide +kernel
theorem dX1_comesOf_52 : decode cX1_comesOf 52 = .ok (.aload_n 0, 1) := by decide +kernel
theorem dX1_comesOf_53 : decode cX1_comesOf 53 = .ok (.getfield 20, 3) := by decide +kernel
theorem dX1_comesOf_56 : decode cX1_comesOf 56 = .ok (.getfield 168, 3) := by decide +kernel
theorem dX1_comesOf_59 : decode cX1_comesOf 59 = .ok (.iconst (-1), 1) := by decide +kernel
theorem dX1_comesOf_60 : decode cX1_comesOf 60 = .ok (.if_icmp .ne 8, 3) := by decide +kernel
theorem dX1_comesOf_63 : decode cX1_comesOf 63 = .ok (.bipush 14, 2) := by decide +kernel
theorem dX1_comesOf_65 : decode cX1_comesOf 65 = .ok (.goto 5, 3) := by decide +kernel
theorem dX1_comesOf_68 : decode cX1_comesOf 68 = .ok (.bipush 11, 2) := by decide +kernel
theorem dX1_comesOf_70 : decode cX1_comesOf 70 = .ok (.ireturn, 1) := by decide +kernel
theorem dX1_comesOf_71 : decode cX1_comesOf 71 = .ok (.aload_n 0, 1) := by decide +kernel
theorem dX1_comesOf_72 : decode cX1_comesOf 72 = .ok (.iload_n 1, 1) := by decide +kernel
theorem dX1_comesOf_73 : decode cX1_comesOf 73 = .ok (.invokevirtual 171, 3) := by decide +kernel
theorem dX1_comesOf_76 : decode cX1_comesOf 76 = .ok (.ifCond .eq 8, 3) := by decide +kernel
theorem dX1_comesOf_79 : decode cX1_comesOf 79 = .ok (.bipush 12, 2) := by decide +kernel
theorem dX1_comesOf_81 : decode cX1_comesOf 81 = .ok (.goto 4, 3) := by decide +kernel
theorem dX1_comesOf_84 : decode cX1_comesOf 84 = .ok (.iconst 0, 1) := by decide +kernel
theorem dX1_comesOf_85 : decode cX1_comesOf 85 = .ok (.ireturn, 1) := by decide +kernel
theorem dX1_comesOf_86 : decode cX1_comesOf 86 = .ok (.aload_n 0, 1) := by decide +kernel
theorem dX1_comesOf_87 : decode cX1_comesOf 87 = .ok (.getfield 31, 3) := by decide +kernel
theorem dX1_comesOf_90 : decode cX1_comesOf 90 = .ok (.iload_n 1, 1) := by decide +kernel
theorem dX1_comesOf_91 : decode cX1_comesOf 91 = .ok (.iaload, 1) := by decide +kernel
theorem dX1_comesOf_92 : decode cX1_comesOf 92 = .ok (.ireturn, 1) := by decide +kernel
theorem dX1_comesOf_93 : decode cX1_comesOf 93 = .ok (.aload_n 0, 1) := by decide +kernel
theorem dX1_comesOf_94 : decode cX1_comesOf 94 = .ok (.iload_n 1, 1) := by decide +kernel
theorem dX1_comesOf_95 : decode cX1_comesOf 95 = .ok (.iload_n 3, 1) := by decide +kernel
theorem dX1_comesOf_96 : decode cX1_comesOf 96 = .ok (.iload 4, 2) := by decide +kernel
theorem dX1_comesOf_98 : decode cX1_comesOf 98 = .ok (.invokevirtual 174, 3) := by decide +kernel
theorem dX1_comesOf_101 : decode cX1_comesOf 101 = .ok (.ifCond .eq 8, 3) := by decide +kernel
theorem dX1_comesOf_104 : decode cX1_comesOf 104 = .ok (.bipush 17, 2) := by decide +kernel
theorem dX1_comesOf_106 : decode cX1_comesOf 106 = .ok (.goto 5, 3) := by decide +kernel
theorem dX1_comesOf_109 : decode cX1_comesOf 109 = .ok (.bipush 18, 2) := by decide +kernel
theorem dX1_comesOf_111 : decode cX1_comesOf 111 = .ok (.ireturn, 1) := by decide +kernel
theorem dX1_comesOf_112 : decode cX1_comesOf 112 = .ok (.aload_n 0, 1) := by decide +kernel
theorem dX1_comesOf_113 : decode cX1_comesOf 113 = .ok (.iload_n 1, 1) := by decide +kernel
theorem dX1_comesOf_114 : decode cX1_comesOf 114 = .ok (.invokevirtual 165, 3) := by decide +kernel
theorem dX1_comesOf_117 : decode cX1_comesOf 117 = .ok (.ireturn, 1) := by decide +kernel
theorem dX1_comesOf_118 : decode cX1_comesOf 118 = .ok (.iconst 0, 1) := by decide +kernel
theorem dX1_comesOf_119 : decode cX1_comesOf 119 = .ok (.ireturn, 1) := by decide +kernel
theorem dX1_defenceOf_0 : decode cX1_defenceOf 0 = .ok (.aload_n 0, 1) := by decide +kernel
theorem dX1_defenceOf_1 : decode cX1_defenceOf 1 = .ok (.getfield 37, 3) := by decide +kernel
theorem dX1_defenceOf_4 : decode cX1_defenceOf 4 = .ok (.iload_n 1, 1) := by decide +kernel
theorem dX1_defenceOf_5 : decode cX1_defenceOf 5 = .ok (.iaload, 1) := by decide +kernel
theorem dX1_defenceOf_6 : decode cX1_defenceOf 6 = .ok (.iconst 1, 1) := by decide +kernel
theorem dX1_defenceOf_7 : decode cX1_defenceOf 7 = .ok (.iand, 1) := by decide +kernel
theorem dX1_defenceOf_8 : decode cX1_defenceOf 8 = .ok (.ifCond .eq 6, 3) := by decide +kernel
theorem dX1_defenceOf_11 : decode cX1_defenceOf 11 = .ok (.bipush 19, 2) := by decide +kernel
theorem dX1_defenceOf_13 : decode cX1_defenceOf 13 = .ok (.ireturn, 1) := by decide +kernel
theorem dX1_defenceOf_14 : decode cX1_defenceOf 14 = .ok (.aload_n 0, 1) := by decide +kernel
theorem dX1_defenceOf_15 : decode cX1_defenceOf 15 = .ok (.getfield 37, 3) := by decide +kernel
theorem dX1_defenceOf_18 : decode cX1_defenceOf 18 = .ok (.iload_n 1, 1) := by decide +kernel
theorem dX1_defenceOf_19 : decode cX1_defenceOf 19 = .ok (.iaload, 1) := by decide +kernel
theorem dX1_defenceOf_20 : decode cX1_defenceOf 20 = .ok (.ifCond .eq 19, 3) := by decide +kernel
theorem dX1_defenceOf_23 : decode cX1_defenceOf 23 = .ok (.aload_n 0, 1) := by decide +kernel
theorem dX1_defenceOf_24 : decode cX1_defenceOf 24 = .ok (.getfield 20, 3) := by decide +kernel
theorem dX1_defenceOf_27 : decode cX1_defenceOf 27 = .ok (.getfield 155, 3) := by decide +kernel
theorem dX1_defenceOf_30 : decode cX1_defenceOf 30 = .ok (.iconst 1, 1) := by decide +kernel
theorem dX1_defenceOf_31 : decode cX1_defenceOf 31 = .ok (.if_icmp .ne 8, 3) := by decide +kernel
theorem dX1_defenceOf_34 : decode cX1_defenceOf 34 = .ok (.bipush 20, 2) := by decide +kernel
theorem dX1_defenceOf_36 : decode cX1_defenceOf 36 = .ok (.goto 4, 3) := by decide +kernel
theorem dX1_defenceOf_39 : decode cX1_defenceOf 39 = .ok (.iconst 0, 1) := by decide +kernel
theorem dX1_defenceOf_40 : decode cX1_defenceOf 40 = .ok (.ireturn, 1) := by decide +kernel
theorem dX1_forgedAt_0 : decode cX1_forgedAt 0 = .ok (.aload_n 0, 1) := by decide +kernel
theorem dX1_forgedAt_1 : decode cX1_forgedAt 1 = .ok (.iload_n 1, 1) := by decide +kernel
theorem dX1_forgedAt_2 : decode cX1_forgedAt 2 = .ok (.iconst 2, 1) := by decide +kernel
theorem dX1_forgedAt_3 : decode cX1_forgedAt 3 = .ok (.isub, 1) := by decide +kernel
theorem dX1_forgedAt_4 : decode cX1_forgedAt 4 = .ok (.invokevirtual 96, 3) := by decide +kernel
theorem dX1_forgedAt_7 : decode cX1_forgedAt 7 = .ok (.ifCond .eq 21, 3) := by decide +kernel
theorem dX1_forgedAt_10 : decode cX1_forgedAt 10 = .ok (.aload_n 0, 1) := by decide +kernel
theorem dX1_forgedAt_11 : decode cX1_forgedAt 11 = .ok (.getfield 11, 3) := by decide +kernel
theorem dX1_forgedAt_14 : decode cX1_forgedAt 14 = .ok (.iload_n 1, 1) := by decide +kernel
theorem dX1_forgedAt_15 : decode cX1_forgedAt 15 = .ok (.iconst 2, 1) := by decide +kernel
theorem dX1_forgedAt_16 : decode cX1_forgedAt 16 = .ok (.isub, 1) := by decide +kernel
theorem dX1_forgedAt_17 : decode cX1_forgedAt 17 = .ok (.aaload, 1) := by decide +kernel
theorem dX1_forgedAt_18 : decode cX1_forgedAt 18 = .ok (.invokevirtual 107, 3) := by decide +kernel
theorem dX1_forgedAt_21 : decode cX1_forgedAt 21 = .ok (.ifCond .eq 7, 3) := by decide +kernel
theorem dX1_forgedAt_24 : decode cX1_forgedAt 24 = .ok (.iconst 1, 1) := by decide +kernel
theorem dX1_forgedAt_25 : decode cX1_forgedAt 25 = .ok (.goto 4, 3) := by decide +kernel
theorem dX1_forgedAt_28 : decode cX1_forgedAt 28 = .ok (.iconst 0, 1) := by decide +kernel
theorem dX1_forgedAt_29 : decode cX1_forgedAt 29 = .ok (.ireturn, 1) := by decide +kernel
theorem dX1_free_0 : decode cX1_free 0 = .ok (.iload_n 1, 1) := by decide +kernel
theorem dX1_free_1 : decode cX1_free 1 = .ok (.istore_n 3, 1) := by decide +kernel
theorem dX1_free_2 : decode cX1_free 2 = .ok (.iload_n 3, 1) := by decide +kernel
theorem dX1_free_3 : decode cX1_free 3 = .ok (.aload_n 0, 1) := by decide +kernel
theorem dX1_free_4 : decode cX1_free 4 = .ok (.invokevirtual 113, 3) := by decide +kernel
theorem dX1_free_7 : decode cX1_free 7 = .ok (.if_icmp .ge 32, 3) := by decide +kernel
theorem dX1_free_10 : decode cX1_free 10 = .ok (.aload_n 0, 1) := by decide +kernel
theorem dX1_free_11 : decode cX1_free 11 = .ok (.getfield 31, 3) := by decide +kernel
theorem dX1_free_14 : decode cX1_free 14 = .ok (.iload_n 3, 1) := by decide +kernel
theorem dX1_free_15 : decode cX1_free 15 = .ok (.iaload, 1) := by decide +kernel
theorem dX1_free_16 : decode cX1_free 16 = .ok (.ifCond .ne 17, 3) := by decide +kernel
theorem dX1_free_19 : decode cX1_free 19 = .ok (.aload_n 0, 1) := by decide +kernel
theorem dX1_free_20 : decode cX1_free 20 = .ok (.getfield 31, 3) := by decide +kernel
theorem dX1_free_23 : decode cX1_free 23 = .ok (.iload_n 3, 1) := by decide +kernel
theorem dX1_free_24 : decode cX1_free 24 = .ok (.iload_n 2, 1) := by decide +kernel
theorem dX1_free_25 : decode cX1_free 25 = .ok (.iastore, 1) := by decide +kernel
theorem dX1_free_26 : decode cX1_free 26 = .ok (.aload_n 0, 1) := by decide +kernel
theorem dX1_free_27 : decode cX1_free 27 = .ok (.getfield 34, 3) := by decide +kernel
theorem dX1_free_30 : decode cX1_free 30 = .ok (.iload_n 3, 1) := by decide +kernel
theorem dX1_free_31 : decode cX1_free 31 = .ok (.iload_n 1, 1) := by decide +kernel
theorem dX1_free_32 : decode cX1_free 32 = .ok (.iastore, 1) := by decide +kernel
theorem dX1_free_33 : decode cX1_free 33 = .ok (.iinc 3 1, 3) := by decide +kernel
theorem dX1_free_36 : decode cX1_free 36 = .ok (.goto (-34), 3) := by decide +kernel
theorem dX1_free_39 : decode cX1_free 39 = .ok (.return_, 1) := by decide +kernel
theorem dX1_greatestPayer_0 : decode cX1_greatestPayer 0 = .ok (.aload_n 0, 1) := by decide +kernel
theorem dX1_greatestPayer_1 : decode cX1_greatestPayer 1 = .ok (.invokevirtual 113, 3) := by decide +kernel
theorem dX1_greatestPayer_4 : decode cX1_greatestPayer 4 = .ok (.iconst 1, 1) := by decide +kernel
theorem dX1_greatestPayer_5 : decode cX1_greatestPayer 5 = .ok (.isub, 1) := by decide +kernel
theorem dX1_greatestPayer_6 : decode cX1_greatestPayer 6 = .ok (.istore_n 3, 1) := by decide +kernel
theorem dX1_greatestPayer_7 : decode cX1_greatestPayer 7 = .ok (.iload_n 3, 1) := by decide +kernel
theorem dX1_greatestPayer_8 : decode cX1_greatestPayer 8 = .ok (.ifCond .lt 29, 3) := by decide +kernel
theorem dX1_greatestPayer_11 : decode cX1_greatestPayer 11 = .ok (.aload_n 0, 1) := by decide +kernel
theorem dX1_greatestPayer_12 : decode cX1_greatestPayer 12 = .ok (.iload_n 3, 1) := by decide +kernel
theorem dX1_greatestPayer_13 : decode cX1_greatestPayer 13 = .ok (.aload_n 1, 1) := by decide +kernel
theorem dX1_greatestPayer_14 : decode cX1_greatestPayer 14 = .ok (.invokevirtual 193, 3) := by decide +kernel
theorem dX1_greatestPayer_17 : decode cX1_greatestPayer 17 = .ok (.ifCond .eq 14, 3) := by decide +kernel
theorem dX1_greatestPayer_20 : decode cX1_greatestPayer 20 = .ok (.aload_n 0, 1) := by decide +kernel
theorem dX1_greatestPayer_21 : decode cX1_greatestPayer 21 = .ok (.iload_n 3, 1) := by decide +kernel
theorem dX1_greatestPayer_22 : decode cX1_greatestPayer 22 = .ok (.iload_n 2, 1) := by decide +kernel
theorem dX1_greatestPayer_23 : decode cX1_greatestPayer 23 = .ok (.invokevirtual 187, 3) := by decide +kernel
theorem dX1_greatestPayer_26 : decode cX1_greatestPayer 26 = .ok (.ifCond .ne 5, 3) := by decide +kernel
theorem dX1_greatestPayer_29 : decode cX1_greatestPayer 29 = .ok (.iload_n 3, 1) := by decide +kernel
theorem dX1_greatestPayer_30 : decode cX1_greatestPayer 30 = .ok (.ireturn, 1) := by decide +kernel
theorem dX1_greatestPayer_31 : decode cX1_greatestPayer 31 = .ok (.iinc 3 (-1), 3) := by decide +kernel
theorem dX1_greatestPayer_34 : decode cX1_greatestPayer 34 = .ok (.goto (-27), 3) := by decide +kernel
theorem dX1_greatestPayer_37 : decode cX1_greatestPayer 37 = .ok (.iconst (-1), 1) := by decide +kernel
theorem dX1_greatestPayer_38 : decode cX1_greatestPayer 38 = .ok (.ireturn, 1) := by decide +kernel
theorem dX1_hasCash_0 : decode cX1_hasCash 0 = .ok (.aload_n 0, 1) := by decide +kernel
theorem dX1_hasCash_1 : decode cX1_hasCash 1 = .ok (.iload_n 1, 1) := by decide +kernel
theorem dX1_hasCash_2 : decode cX1_hasCash 2 = .ok (.invokevirtual 117, 3) := by decide +kernel
theorem dX1_hasCash_5 : decode cX1_hasCash 5 = .ok (.istore_n 3, 1) := by decide +kernel
theorem dX1_hasCash_6 : decode cX1_hasCash 6 = .ok (.iload_n 3, 1) := by decide +kernel
theorem dX1_hasCash_7 : decode cX1_hasCash 7 = .ok (.invokestatic 190, 3) := by decide +kernel
theorem dX1_hasCash_10 : decode cX1_hasCash 10 = .ok (.ifCond .eq 17, 3) := by decide +kernel
theorem dX1_hasCash_13 : decode cX1_hasCash 13 = .ok (.aload_n 2, 1) := by decide +kernel
theorem dX1_hasCash_14 : decode cX1_hasCash 14 = .ok (.iload_n 3, 1) := by decide +kernel
theorem dX1_hasCash_15 : decode cX1_hasCash 15 = .ok (.iaload, 1) := by decide +kernel
theorem dX1_hasCash_16 : decode cX1_hasCash 16 = .ok (.aload_n 0, 1) := by decide +kernel
theorem dX1_hasCash_17 : decode cX1_hasCash 17 = .ok (.getfield 81, 3) := by decide +kernel
theorem dX1_hasCash_20 : decode cX1_hasCash 20 = .ok (.if_icmp .lt 7, 3) := by decide +kernel
theorem dX1_hasCash_23 : decode cX1_hasCash 23 = .ok (.iconst 1, 1) := by decide +kernel
theorem dX1_hasCash_24 : decode cX1_hasCash 24 = .ok (.goto 4, 3) := by decide +kernel
theorem dX1_hasCash_27 : decode cX1_hasCash 27 = .ok (.iconst 0, 1) := by decide +kernel
theorem dX1_hasCash_28 : decode cX1_hasCash 28 = .ok (.ireturn, 1) := by decide +kernel
theorem dX1_hasStep_0 : decode cX1_hasStep 0 = .ok (.iload_n 1, 1) := by decide +kernel
theorem dX1_hasStep_1 : decode cX1_hasStep 1 = .ok (.ifCond .lt 15, 3) := by decide +kernel
theorem dX1_hasStep_4 : decode cX1_hasStep 4 = .ok (.iload_n 1, 1) := by decide +kernel
theorem dX1_hasStep_5 : decode cX1_hasStep 5 = .ok (.aload_n 0, 1) := by decide +kernel
theorem dX1_hasStep_6 : decode cX1_hasStep 6 = .ok (.getfield 61, 3) := by decide +kernel
theorem dX1_hasStep_9 : decode cX1_hasStep 9 = .ok (.if_icmp .ge 7, 3) := by decide +kernel
theorem dX1_hasStep_12 : decode cX1_hasStep 12 = .ok (.iconst 1, 1) := by decide +kernel
theorem dX1_hasStep_13 : decode cX1_hasStep 13 = .ok (.goto 4, 3) := by decide +kernel
theorem dX1_hasStep_16 : decode cX1_hasStep 16 = .ok (.iconst 0, 1) := by decide +kernel
theorem dX1_hasStep_17 : decode cX1_hasStep 17 = .ok (.ireturn, 1) := by decide +kernel
theorem dX1_hasTitle_0 : decode cX1_hasTitle 0 = .ok (.aload_n 0, 1) := by decide +kernel
theorem dX1_hasTitle_1 : decode cX1_hasTitle 1 = .ok (.getfield 20, 3) := by decide +kernel
theorem dX1_hasTitle_4 : decode cX1_hasTitle 4 = .ok (.aload_n 0, 1) := by decide +kernel
theorem dX1_hasTitle_5 : decode cX1_hasTitle 5 = .ok (.getfield 55, 3) := by decide +kernel
theorem dX1_hasTitle_8 : decode cX1_hasTitle 8 = .ok (.invokevirtual 110, 3) := by decide +kernel
theorem dX1_hasTitle_11 : decode cX1_hasTitle 11 = .ok (.ireturn, 1) := by decide +kernel
theorem dX1_inReach_0 : decode cX1_inReach 0 = .ok (.aload_n 0, 1) := by decide +kernel
theorem dX1_inReach_1 : decode cX1_inReach 1 = .ok (.iload_n 1, 1) := by decide +kernel
theorem dX1_inReach_2 : decode cX1_inReach 2 = .ok (.iload_n 3, 1) := by decide +kernel
theorem dX1_inReach_3 : decode cX1_inReach 3 = .ok (.invokevirtual 184, 3) := by decide +kernel
theorem dX1_inReach_6 : decode cX1_inReach 6 = .ok (.iload_n 2, 1) := by decide +kernel
theorem dX1_inReach_7 : decode cX1_inReach 7 = .ok (.if_icmp .lt 7, 3) := by decide +kernel
theorem dX1_inReach_10 : decode cX1_inReach 10 = .ok (.iconst 1, 1) := by decide +kernel
theorem dX1_inReach_11 : decode cX1_inReach 11 = .ok (.goto 4, 3) := by decide +kernel
theorem dX1_inReach_14 : decode cX1_inReach 14 = .ok (.iconst 0, 1) := by decide +kernel
theorem dX1_inReach_15 : decode cX1_inReach 15 = .ok (.ireturn, 1) := by decide +kernel
theorem dX1_lastDayToTell_0 : decode cX1_lastDayToTell 0 = .ok (.iload_n 1, 1) := by decide +kernel
theorem dX1_lastDayToTell_1 : decode cX1_lastDayToTell 1 = .ok (.ifCond .eq 29, 3) := by decide +kernel
theorem dX1_lastDayToTell_4 : decode cX1_lastDayToTell 4 = .ok (.aload_n 0, 1) := by decide +kernel
theorem dX1_lastDayToTell_5 : decode cX1_lastDayToTell 5 = .ok (.getfield 58, 3) := by decide +kernel
theorem dX1_lastDayToTell_8 : decode cX1_lastDayToTell 8 = .ok (.iconst (-1), 1) := by decide +kernel
theorem dX1_lastDayToTell_9 : decode cX1_lastDayToTell 9 = .ok (.if_icmp .eq 21, 3) := by decide +kernel
theorem dX1_lastDayToTell_12 : decode cX1_lastDayToTell 12 = .ok (.aload_n 0, 1) := by decide +kernel
theorem dX1_lastDayToTell_13 : decode cX1_lastDayToTell 13 = .ok (.getfield 27, 3) := by decide +kernel
theorem dX1_lastDayToTell_16 : decode cX1_lastDayToTell 16 = .ok (.iload_n 1, 1) := by decide +kernel
theorem dX1_lastDayToTell_17 : decode cX1_lastDayToTell 17 = .ok (.iaload, 1) := by decide +kernel
theorem dX1_lastDayToTell_18 : decode cX1_lastDayToTell 18 = .ok (.iconst (-1), 1) := by decide +kernel
theorem dX1_lastDayToTell_19 : decode cX1_lastDayToTell 19 = .ok (.if_icmp .ne 11, 3) := by decide +kernel
theorem dX1_lastDayToTell_22 : decode cX1_lastDayToTell 22 = .ok (.aload_n 0, 1) := by decide +kernel
theorem dX1_lastDayToTell_23 : decode cX1_lastDayToTell 23 = .ok (.iload_n 1, 1) := by decide +kernel
theorem dX1_lastDayToTell_24 : decode cX1_lastDayToTell 24 = .ok (.invokevirtual 121, 3) := by decide +kernel
theorem dX1_lastDayToTell_27 : decode cX1_lastDayToTell 27 = .ok (.ifCond .ne 5, 3) := by decide +kernel
theorem dX1_lastDayToTell_30 : decode cX1_lastDayToTell 30 = .ok (.iconst (-1), 1) := by decide +kernel
theorem dX1_lastDayToTell_31 : decode cX1_lastDayToTell 31 = .ok (.ireturn, 1) := by decide +kernel
theorem dX1_lastDayToTell_32 : decode cX1_lastDayToTell 32 = .ok (.aload_n 0, 1) := by decide +kernel
theorem dX1_lastDayToTell_33 : decode cX1_lastDayToTell 33 = .ok (.invokevirtual 159, 3) := by decide +kernel
theorem dX1_lastDayToTell_36 : decode cX1_lastDayToTell 36 = .ok (.ifCond .eq 20, 3) := by decide +kernel
theorem dX1_lastDayToTell_39 : decode cX1_lastDayToTell 39 = .ok (.iload_n 1, 1) := by decide +kernel
theorem dX1_lastDayToTell_40 : decode cX1_lastDayToTell 40 = .ok (.aload_n 0, 1) := by decide +kernel
theorem dX1_lastDayToTell_41 : decode cX1_lastDayToTell 41 = .ok (.invokevirtual 162, 3) := by decide +kernel
theorem dX1_lastDayToTell_44 : decode cX1_lastDayToTell 44 = .ok (.if_icmp .ge 12, 3) := by decide +kernel
theorem dX1_lastDayToTell_47 : decode cX1_lastDayToTell 47 = .ok (.aload_n 0, 1) := by decide +kernel
theorem dX1_lastDayToTell_48 : decode cX1_lastDayToTell 48 = .ok (.getfield 58, 3) := by decide +kernel
theorem dX1_lastDayToTell_51 : decode cX1_lastDayToTell 51 = .ok (.iload_n 2, 1) := by decide +kernel
theorem dX1_lastDayToTell_52 : decode cX1_lastDayToTell 52 = .ok (.iadd, 1) := by decide +kernel
theorem dX1_lastDayToTell_53 : decode cX1_lastDayToTell 53 = .ok (.goto 4, 3) := by decide +kernel
theorem dX1_lastDayToTell_56 : decode cX1_lastDayToTell 56 = .ok (.iconst (-1), 1) := by decide +kernel
theorem dX1_lastDayToTell_57 : decode cX1_lastDayToTell 57 = .ok (.istore_n 3, 1) := by decide +kernel
theorem dX1_lastDayToTell_58 : decode cX1_lastDayToTell 58 = .ok (.iload_n 1, 1) := by decide +kernel
theorem dX1_lastDayToTell_59 : decode cX1_lastDayToTell 59 = .ok (.iconst 1, 1) := by decide +kernel
theorem dX1_lastDayToTell_60 : decode cX1_lastDayToTell 60 = .ok (.iadd, 1) := by decide +kernel
theorem dX1_lastDayToTell_61 : decode cX1_lastDayToTell 61 = .ok (.istore 4, 2) := by decide +kernel
theorem dX1_lastDayToTell_63 : decode cX1_lastDayToTell 63 = .ok (.iload 4, 2) := by decide +kernel
theorem dX1_lastDayToTell_65 : decode cX1_lastDayToTell 65 = .ok (.aload_n 0, 1) := by decide +kernel
theorem dX1_lastDayToTell_66 : decode cX1_lastDayToTell 66 = .ok (.invokevirtual 113, 3) := by decide +kernel
theorem dX1_lastDayToTell_69 : decode cX1_lastDayToTell 69 = .ok (.if_icmp .ge 34, 3) := by decide +kernel
theorem dX1_lastDayToTell_72 : decode cX1_lastDayToTell 72 = .ok (.aload_n 0, 1) := by decide +kernel
theorem dX1_lastDayToTell_73 : decode cX1_lastDayToTell 73 = .ok (.getfield 27, 3) := by decide +kernel
theorem dX1_lastDayToTell_76 : decode cX1_lastDayToTell 76 = .ok (.iload 4, 2) := by decide +kernel
theorem dX1_lastDayToTell_78 : decode cX1_lastDayToTell 78 = .ok (.iaload, 1) := by decide +kernel
theorem dX1_lastDayToTell_79 : decode cX1_lastDayToTell 79 = .ok (.iconst (-1), 1) := by decide +kernel
theorem dX1_lastDayToTell_80 : decode cX1_lastDayToTell 80 = .ok (.if_icmp .eq 17, 3) := by decide +kernel
theorem dX1_lastDayToTell_83 : decode cX1_lastDayToTell 83 = .ok (.iload_n 3, 1) := by decide +kernel
theorem dX1_lastDayToTell_84 : decode cX1_lastDayToTell 84 = .ok (.aload_n 0, 1) := by decide +kernel
theorem dX1_lastDayToTell_85 : decode cX1_lastDayToTell 85 = .ok (.getfield 27, 3) := by decide +kernel
theorem dX1_lastDayToTell_88 : decode cX1_lastDayToTell 88 = .ok (.iload 4, 2) := by decide +kernel
theorem dX1_lastDayToTell_90 : decode cX1_lastDayToTell 90 = .ok (.iaload, 1) := by decide +kernel
theorem dX1_lastDayToTell_91 : decode cX1_lastDayToTell 91 = .ok (.iload_n 2, 1) := by decide +kernel
theorem dX1_lastDayToTell_92 : decode cX1_lastDayToTell 92 = .ok (.iadd, 1) := by decide +kernel
theorem dX1_lastDayToTell_93 : decode cX1_lastDayToTell 93 = .ok (.invokestatic 178, 3) := by decide +kernel
theorem dX1_lastDayToTell_96 : decode cX1_lastDayToTell 96 = .ok (.istore_n 3, 1) := by decide +kernel
theorem dX1_lastDayToTell_97 : decode cX1_lastDayToTell 97 = .ok (.iinc 4 1, 3) := by decide +kernel
theorem dX1_lastDayToTell_100 : decode cX1_lastDayToTell 100 = .ok (.goto (-37), 3) := by decide +kernel
theorem dX1_lastDayToTell_103 : decode cX1_lastDayToTell 103 = .ok (.iload_n 3, 1) := by decide +kernel
theorem dX1_lastDayToTell_104 : decode cX1_lastDayToTell 104 = .ok (.ireturn, 1) := by decide +kernel
theorem dX1_parties_0 : decode cX1_parties 0 = .ok (.iconst 2, 1) := by decide +kernel
theorem dX1_parties_1 : decode cX1_parties 1 = .ok (.aload_n 0, 1) := by decide +kernel
theorem dX1_parties_2 : decode cX1_parties 2 = .ok (.getfield 61, 3) := by decide +kernel
theorem dX1_parties_5 : decode cX1_parties 5 = .ok (.iadd, 1) := by decide +kernel
theorem dX1_parties_6 : decode cX1_parties 6 = .ok (.ireturn, 1) := by decide +kernel
theorem dX1_placeOf_0 : decode cX1_placeOf 0 = .ok (.iload_n 2, 1) := by decide +kernel
theorem dX1_placeOf_1 : decode cX1_placeOf 1 = .ok (.tableswitch 79 11 16 #[39, 47, 39, 79, 72, 72], 39) := by decide +kernel
theorem dX1_placeOf_40 : decode cX1_placeOf 40 = .ok (.aload_n 0, 1) := by decide +kernel
theorem dX1_placeOf_41 : decode cX1_placeOf 41 = .ok (.getfield 20, 3) := by decide +kernel
theorem dX1_placeOf_44 : decode cX1_placeOf 44 = .ok (.getfield 168, 3) := by decide +kernel
theorem dX1_placeOf_47 : decode cX1_placeOf 47 = .ok (.ireturn, 1) := by decide +kernel
theorem dX1_placeOf_48 : decode cX1_placeOf 48 = .ok (.aload_n 0, 1) := by decide +kernel
theorem dX1_placeOf_49 : decode cX1_placeOf 49 = .ok (.getfield 20, 3) := by decide +kernel
theorem dX1_placeOf_52 : decode cX1_placeOf 52 = .ok (.getfield 168, 3) := by decide +kernel
theorem dX1_placeOf_55 : decode cX1_placeOf 55 = .ok (.iconst (-1), 1) := by decide +kernel
theorem dX1_placeOf_56 : decode cX1_placeOf 56 = .ok (.if_icmp .ne 9, 3) := by decide +kernel
theorem dX1_placeOf_59 : decode cX1_placeOf 59 = .ok (.iload_n 1, 1) := by decide +kernel
theorem dX1_placeOf_60 : decode cX1_placeOf 60 = .ok (.iconst 2, 1) := by decide +kernel
theorem dX1_placeOf_61 : decode cX1_placeOf 61 = .ok (.isub, 1) := by decide +kernel
theorem dX1_placeOf_62 : decode cX1_placeOf 62 = .ok (.goto 10, 3) := by decide +kernel
theorem dX1_placeOf_65 : decode cX1_placeOf 65 = .ok (.aload_n 0, 1) := by decide +kernel
theorem dX1_placeOf_66 : decode cX1_placeOf 66 = .ok (.getfield 20, 3) := by decide +kernel
theorem dX1_placeOf_69 : decode cX1_placeOf 69 = .ok (.getfield 168, 3) := by decide +kernel
theorem dX1_placeOf_72 : decode cX1_placeOf 72 = .ok (.ireturn, 1) := by decide +kernel
theorem dX1_placeOf_73 : decode cX1_placeOf 73 = .ok (.aload_n 0, 1) := by decide +kernel
theorem dX1_placeOf_74 : decode cX1_placeOf 74 = .ok (.getfield 34, 3) := by decide +kernel
theorem dX1_placeOf_77 : decode cX1_placeOf 77 = .ok (.iload_n 1, 1) := by decide +kernel
theorem dX1_placeOf_78 : decode cX1_placeOf 78 = .ok (.iaload, 1) := by decide +kernel
theorem dX1_placeOf_79 : decode cX1_placeOf 79 = .ok (.ireturn, 1) := by decide +kernel
theorem dX1_placeOf_80 : decode cX1_placeOf 80 = .ok (.iconst (-1), 1) := by decide +kernel
theorem dX1_placeOf_81 : decode cX1_placeOf 81 = .ok (.ireturn, 1) := by decide +kernel
theorem dX1_rank_0 : decode cX1_rank 0 = .ok (.iconst 1, 1) := by decide +kernel
theorem dX1_rank_1 : decode cX1_rank 1 = .ok (.istore_n 1, 1) := by decide +kernel
theorem dX1_rank_2 : decode cX1_rank 2 = .ok (.iload_n 1, 1) := by decide +kernel
theorem dX1_rank_3 : decode cX1_rank 3 = .ok (.aload_n 0, 1) := by decide +kernel
theorem dX1_rank_4 : decode cX1_rank 4 = .ok (.invokevirtual 113, 3) := by decide +kernel
theorem dX1_rank_7 : decode cX1_rank 7 = .ok (.if_icmp .ge 31, 3) := by decide +kernel
theorem dX1_rank_10 : decode cX1_rank 10 = .ok (.aload_n 0, 1) := by decide +kernel
theorem dX1_rank_11 : decode cX1_rank 11 = .ok (.iload_n 1, 1) := by decide +kernel
theorem dX1_rank_12 : decode cX1_rank 12 = .ok (.invokevirtual 117, 3) := by decide +kernel
theorem dX1_rank_15 : decode cX1_rank 15 = .ok (.aload_n 0, 1) := by decide +kernel
theorem dX1_rank_16 : decode cX1_rank 16 = .ok (.getfield 55, 3) := by decide +kernel
theorem dX1_rank_19 : decode cX1_rank 19 = .ok (.if_icmp .ne 13, 3) := by decide +kernel
theorem dX1_rank_22 : decode cX1_rank 22 = .ok (.aload_n 0, 1) := by decide +kernel
theorem dX1_rank_23 : decode cX1_rank 23 = .ok (.iload_n 1, 1) := by decide +kernel
theorem dX1_rank_24 : decode cX1_rank 24 = .ok (.invokevirtual 121, 3) := by decide +kernel
theorem dX1_rank_27 : decode cX1_rank 27 = .ok (.ifCond .eq 5, 3) := by decide +kernel
theorem dX1_rank_30 : decode cX1_rank 30 = .ok (.iload_n 1, 1) := by decide +kernel
theorem dX1_rank_31 : decode cX1_rank 31 = .ok (.ireturn, 1) := by decide +kernel
theorem dX1_rank_32 : decode cX1_rank 32 = .ok (.iinc 1 1, 3) := by decide +kernel
theorem dX1_rank_35 : decode cX1_rank 35 = .ok (.goto (-33), 3) := by decide +kernel
theorem dX1_rank_38 : decode cX1_rank 38 = .ok (.aload_n 0, 1) := by decide +kernel
theorem dX1_rank_39 : decode cX1_rank 39 = .ok (.invokevirtual 113, 3) := by decide +kernel
theorem dX1_rank_42 : decode cX1_rank 42 = .ok (.ireturn, 1) := by decide +kernel
theorem dX1_signed_0 : decode cX1_signed 0 = .ok (.iload_n 1, 1) := by decide +kernel
theorem dX1_signed_1 : decode cX1_signed 1 = .ok (.ifCond .ne 8, 3) := by decide +kernel
theorem dX1_signed_4 : decode cX1_signed 4 = .ok (.aload_n 0, 1) := by decide +kernel
theorem dX1_signed_5 : decode cX1_signed 5 = .ok (.getfield 67, 3) := by decide +kernel
theorem dX1_signed_8 : decode cX1_signed 8 = .ok (.ireturn, 1) := by decide +kernel
theorem dX1_signed_9 : decode cX1_signed 9 = .ok (.iload_n 1, 1) := by decide +kernel
theorem dX1_signed_10 : decode cX1_signed 10 = .ok (.iconst 1, 1) := by decide +kernel
theorem dX1_signed_11 : decode cX1_signed 11 = .ok (.if_icmp .eq 27, 3) := by decide +kernel
theorem dX1_signed_14 : decode cX1_signed 14 = .ok (.aload_n 0, 1) := by decide +kernel
theorem dX1_signed_15 : decode cX1_signed 15 = .ok (.iload_n 1, 1) := by decide +kernel
theorem dX1_signed_16 : decode cX1_signed 16 = .ok (.iconst 2, 1) := by decide +kernel
theorem dX1_signed_17 : decode cX1_signed 17 = .ok (.isub, 1) := by decide +kernel
theorem dX1_signed_18 : decode cX1_signed 18 = .ok (.invokevirtual 96, 3) := by decide +kernel
theorem dX1_signed_21 : decode cX1_signed 21 = .ok (.ifCond .eq 21, 3) := by decide +kernel
theorem dX1_signed_24 : decode cX1_signed 24 = .ok (.aload_n 0, 1) := by decide +kernel
theorem dX1_signed_25 : decode cX1_signed 25 = .ok (.getfield 11, 3) := by decide +kernel
theorem dX1_signed_28 : decode cX1_signed 28 = .ok (.iload_n 1, 1) := by decide +kernel
theorem dX1_signed_29 : decode cX1_signed 29 = .ok (.iconst 2, 1) := by decide +kernel
theorem dX1_signed_30 : decode cX1_signed 30 = .ok (.isub, 1) := by decide +kernel
theorem dX1_signed_31 : decode cX1_signed 31 = .ok (.aaload, 1) := by decide +kernel
theorem dX1_signed_32 : decode cX1_signed 32 = .ok (.invokevirtual 103, 3) := by decide +kernel
theorem dX1_signed_35 : decode cX1_signed 35 = .ok (.ifCond .eq 7, 3) := by decide +kernel
theorem dX1_signed_38 : decode cX1_signed 38 = .ok (.iconst 1, 1) := by decide +kernel
theorem dX1_signed_39 : decode cX1_signed 39 = .ok (.goto 4, 3) := by decide +kernel
theorem dX1_signed_42 : decode cX1_signed 42 = .ok (.iconst 0, 1) := by decide +kernel
theorem dX1_signed_43 : decode cX1_signed 43 = .ok (.ireturn, 1) := by decide +kernel
theorem dX1_who_0 : decode cX1_who 0 = .ok (.iload_n 1, 1) := by decide +kernel
theorem dX1_who_1 : decode cX1_who 1 = .ok (.ifCond .ne 19, 3) := by decide +kernel
theorem dX1_who_4 : decode cX1_who 4 = .ok (.aload_n 0, 1) := by decide +kernel
theorem dX1_who_5 : decode cX1_who 5 = .ok (.getfield 67, 3) := by decide +kernel
theorem dX1_who_8 : decode cX1_who 8 = .ok (.ifCond .eq 10, 3) := by decide +kernel
theorem dX1_who_11 : decode cX1_who 11 = .ok (.aload_n 0, 1) := by decide +kernel
theorem dX1_who_12 : decode cX1_who 12 = .ok (.getfield 45, 3) := by decide +kernel
theorem dX1_who_15 : decode cX1_who 15 = .ok (.goto 4, 3) := by decide +kernel
theorem dX1_who_18 : decode cX1_who 18 = .ok (.iconst (-1), 1) := by decide +kernel
theorem dX1_who_19 : decode cX1_who 19 = .ok (.ireturn, 1) := by decide +kernel
theorem dX1_who_20 : decode cX1_who 20 = .ok (.iload_n 1, 1) := by decide +kernel
theorem dX1_who_21 : decode cX1_who 21 = .ok (.iconst 1, 1) := by decide +kernel
theorem dX1_who_22 : decode cX1_who 22 = .ok (.if_icmp .ne 8, 3) := by decide +kernel
theorem dX1_who_25 : decode cX1_who 25 = .ok (.aload_n 0, 1) := by decide +kernel
theorem dX1_who_26 : decode cX1_who 26 = .ok (.getfield 41, 3) := by decide +kernel
theorem dX1_who_29 : decode cX1_who 29 = .ok (.ireturn, 1) := by decide +kernel
theorem dX1_who_30 : decode cX1_who 30 = .ok (.aload_n 0, 1) := by decide +kernel
theorem dX1_who_31 : decode cX1_who 31 = .ok (.iload_n 1, 1) := by decide +kernel
theorem dX1_who_32 : decode cX1_who 32 = .ok (.iconst 2, 1) := by decide +kernel
theorem dX1_who_33 : decode cX1_who 33 = .ok (.isub, 1) := by decide +kernel
theorem dX1_who_34 : decode cX1_who 34 = .ok (.invokevirtual 96, 3) := by decide +kernel
theorem dX1_who_37 : decode cX1_who 37 = .ok (.ifCond .eq 17, 3) := by decide +kernel
theorem dX1_who_40 : decode cX1_who 40 = .ok (.aload_n 0, 1) := by decide +kernel
theorem dX1_who_41 : decode cX1_who 41 = .ok (.getfield 11, 3) := by decide +kernel
theorem dX1_who_44 : decode cX1_who 44 = .ok (.iload_n 1, 1) := by decide +kernel
theorem dX1_who_45 : decode cX1_who 45 = .ok (.iconst 2, 1) := by decide +kernel
theorem dX1_who_46 : decode cX1_who 46 = .ok (.isub, 1) := by decide +kernel
theorem dX1_who_47 : decode cX1_who 47 = .ok (.aaload, 1) := by decide +kernel
theorem dX1_who_48 : decode cX1_who 48 = .ok (.getfield 100, 3) := by decide +kernel
theorem dX1_who_51 : decode cX1_who 51 = .ok (.goto 4, 3) := by decide +kernel
theorem dX1_who_54 : decode cX1_who 54 = .ok (.iconst (-1), 1) := by decide +kernel
theorem dX1_who_55 : decode cX1_who 55 = .ok (.ireturn, 1) := by decide +kernel
theorem dX1_whyNot_0 : decode cX1_whyNot 0 = .ok (.aload_n 0, 1) := by decide +kernel
theorem dX1_whyNot_1 : decode cX1_whyNot 1 = .ok (.invokevirtual 159, 3) := by decide +kernel
theorem dX1_whyNot_4 : decode cX1_whyNot 4 = .ok (.ifCond .ne 5, 3) := by decide +kernel
theorem dX1_whyNot_7 : decode cX1_whyNot 7 = .ok (.iconst 1, 1) := by decide +kernel
theorem dX1_whyNot_8 : decode cX1_whyNot 8 = .ok (.ireturn, 1) := by decide +kernel
theorem dX1_whyNot_9 : decode cX1_whyNot 9 = .ok (.aload_n 0, 1) := by decide +kernel
theorem dX1_whyNot_10 : decode cX1_whyNot 10 = .ok (.getfield 70, 3) := by decide +kernel
theorem dX1_whyNot_13 : decode cX1_whyNot 13 = .ok (.ifCond .eq 5, 3) := by decide +kernel
theorem dX1_whyNot_16 : decode cX1_whyNot 16 = .ok (.iconst 2, 1) := by decide +kernel
theorem dX1_whyNot_17 : decode cX1_whyNot 17 = .ok (.ireturn, 1) := by decide +kernel
theorem dX1_whyNot_18 : decode cX1_whyNot 18 = .ok (.aload_n 0, 1) := by decide +kernel
theorem dX1_whyNot_19 : decode cX1_whyNot 19 = .ok (.iload_n 1, 1) := by decide +kernel
theorem dX1_whyNot_20 : decode cX1_whyNot 20 = .ok (.invokevirtual 121, 3) := by decide +kernel
theorem dX1_whyNot_23 : decode cX1_whyNot 23 = .ok (.ifCond .ne 5, 3) := by decide +kernel
theorem dX1_whyNot_26 : decode cX1_whyNot 26 = .ok (.iconst 3, 1) := by decide +kernel
theorem dX1_whyNot_27 : decode cX1_whyNot 27 = .ok (.ireturn, 1) := by decide +kernel
theorem dX1_whyNot_28 : decode cX1_whyNot 28 = .ok (.iload_n 1, 1) := by decide +kernel
theorem dX1_whyNot_29 : decode cX1_whyNot 29 = .ok (.aload_n 0, 1) := by decide +kernel
theorem dX1_whyNot_30 : decode cX1_whyNot 30 = .ok (.invokevirtual 162, 3) := by decide +kernel
theorem dX1_whyNot_33 : decode cX1_whyNot 33 = .ok (.if_icmp .lt 5, 3) := by decide +kernel
theorem dX1_whyNot_36 : decode cX1_whyNot 36 = .ok (.iconst 4, 1) := by decide +kernel
theorem dX1_whyNot_37 : decode cX1_whyNot 37 = .ok (.ireturn, 1) := by decide +kernel
theorem dX1_whyNot_38 : decode cX1_whyNot 38 = .ok (.aload_n 0, 1) := by decide +kernel
theorem dX1_whyNot_39 : decode cX1_whyNot 39 = .ok (.getfield 31, 3) := by decide +kernel
theorem dX1_whyNot_42 : decode cX1_whyNot 42 = .ok (.iload_n 1, 1) := by decide +kernel
theorem dX1_whyNot_43 : decode cX1_whyNot 43 = .ok (.iaload, 1) := by decide +kernel
theorem dX1_whyNot_44 : decode cX1_whyNot 44 = .ok (.ifCond .eq 5, 3) := by decide +kernel
theorem dX1_whyNot_47 : decode cX1_whyNot 47 = .ok (.iconst 5, 1) := by decide +kernel
theorem dX1_whyNot_48 : decode cX1_whyNot 48 = .ok (.ireturn, 1) := by decide +kernel
theorem dX1_whyNot_49 : decode cX1_whyNot 49 = .ok (.aload_n 0, 1) := by decide +kernel
theorem dX1_whyNot_50 : decode cX1_whyNot 50 = .ok (.iload_n 1, 1) := by decide +kernel
theorem dX1_whyNot_51 : decode cX1_whyNot 51 = .ok (.iconst 2, 1) := by decide +kernel
theorem dX1_whyNot_52 : decode cX1_whyNot 52 = .ok (.isub, 1) := by decide +kernel
theorem dX1_whyNot_53 : decode cX1_whyNot 53 = .ok (.invokevirtual 96, 3) := by decide +kernel
theorem dX1_whyNot_56 : decode cX1_whyNot 56 = .ok (.ifCond .eq 20, 3) := by decide +kernel
theorem dX1_whyNot_59 : decode cX1_whyNot 59 = .ok (.aload_n 0, 1) := by decide +kernel
theorem dX1_whyNot_60 : decode cX1_whyNot 60 = .ok (.getfield 11, 3) := by decide +kernel
theorem dX1_whyNot_63 : decode cX1_whyNot 63 = .ok (.iload_n 1, 1) := by decide +kernel
theorem dX1_whyNot_64 : decode cX1_whyNot 64 = .ok (.iconst 2, 1) := by decide +kernel
theorem dX1_whyNot_65 : decode cX1_whyNot 65 = .ok (.isub, 1) := by decide +kernel
theorem dX1_whyNot_66 : decode cX1_whyNot 66 = .ok (.aaload, 1) := by decide +kernel
theorem dX1_whyNot_67 : decode cX1_whyNot 67 = .ok (.getfield 138, 3) := by decide +kernel
theorem dX1_whyNot_70 : decode cX1_whyNot 70 = .ok (.ifCond .eq 6, 3) := by decide +kernel
theorem dX1_whyNot_73 : decode cX1_whyNot 73 = .ok (.bipush 6, 2) := by decide +kernel
theorem dX1_whyNot_75 : decode cX1_whyNot 75 = .ok (.ireturn, 1) := by decide +kernel
theorem dX1_whyNot_76 : decode cX1_whyNot 76 = .ok (.iload_n 1, 1) := by decide +kernel
theorem dX1_whyNot_77 : decode cX1_whyNot 77 = .ok (.ifCond .ne 14, 3) := by decide +kernel
theorem dX1_whyNot_80 : decode cX1_whyNot 80 = .ok (.iload_n 2, 1) := by decide +kernel
theorem dX1_whyNot_81 : decode cX1_whyNot 81 = .ok (.aload_n 0, 1) := by decide +kernel
theorem dX1_whyNot_82 : decode cX1_whyNot 82 = .ok (.getfield 84, 3) := by decide +kernel
theorem dX1_whyNot_85 : decode cX1_whyNot 85 = .ok (.if_icmp .ge 17, 3) := by decide +kernel
theorem dX1_whyNot_88 : decode cX1_whyNot 88 = .ok (.goto 11, 3) := by decide +kernel
theorem dX1_whyNot_91 : decode cX1_whyNot 91 = .ok (.aload_n 0, 1) := by decide +kernel
theorem dX1_whyNot_92 : decode cX1_whyNot 92 = .ok (.getfield 58, 3) := by decide +kernel
theorem dX1_whyNot_95 : decode cX1_whyNot 95 = .ok (.iconst (-1), 1) := by decide +kernel
theorem dX1_whyNot_96 : decode cX1_whyNot 96 = .ok (.if_icmp .ne 6, 3) := by decide +kernel
theorem dX1_whyNot_99 : decode cX1_whyNot 99 = .ok (.bipush 7, 2) := by decide +kernel
theorem dX1_whyNot_101 : decode cX1_whyNot 101 = .ok (.ireturn, 1) := by decide +kernel
theorem dX1_whyNot_102 : decode cX1_whyNot 102 = .ok (.iload_n 1, 1) := by decide +kernel
theorem dX1_whyNot_103 : decode cX1_whyNot 103 = .ok (.ifCond .eq 16, 3) := by decide +kernel
theorem dX1_whyNot_106 : decode cX1_whyNot 106 = .ok (.aload_n 0, 1) := by decide +kernel
theorem dX1_whyNot_107 : decode cX1_whyNot 107 = .ok (.getfield 27, 3) := by decide +kernel
theorem dX1_whyNot_110 : decode cX1_whyNot 110 = .ok (.iload_n 1, 1) := by decide +kernel
theorem dX1_whyNot_111 : decode cX1_whyNot 111 = .ok (.iaload, 1) := by decide +kernel
theorem dX1_whyNot_112 : decode cX1_whyNot 112 = .ok (.iconst (-1), 1) := by decide +kernel
theorem dX1_whyNot_113 : decode cX1_whyNot 113 = .ok (.if_icmp .ne 6, 3) := by decide +kernel
theorem dX1_whyNot_116 : decode cX1_whyNot 116 = .ok (.bipush 8, 2) := by decide +kernel
theorem dX1_whyNot_118 : decode cX1_whyNot 118 = .ok (.ireturn, 1) := by decide +kernel
theorem dX1_whyNot_119 : decode cX1_whyNot 119 = .ok (.aload_n 0, 1) := by decide +kernel
theorem dX1_whyNot_120 : decode cX1_whyNot 120 = .ok (.iload_n 1, 1) := by decide +kernel
theorem dX1_whyNot_121 : decode cX1_whyNot 121 = .ok (.invokevirtual 165, 3) := by decide +kernel
theorem dX1_whyNot_124 : decode cX1_whyNot 124 = .ok (.ifCond .ne 7, 3) := by decide +kernel
theorem dX1_whyNot_127 : decode cX1_whyNot 127 = .ok (.iconst 0, 1) := by decide +kernel
theorem dX1_whyNot_128 : decode cX1_whyNot 128 = .ok (.goto 5, 3) := by decide +kernel
theorem dX1_whyNot_131 : decode cX1_whyNot 131 = .ok (.bipush 9, 2) := by decide +kernel
theorem dX1_whyNot_133 : decode cX1_whyNot 133 = .ok (.ireturn, 1) := by decide +kernel
theorem dX9_bit_0 : decode cX9_bit 0 = .ok (.iload_n 0, 1) := by decide +kernel
theorem dX9_bit_1 : decode cX9_bit 1 = .ok (.ifCond .eq 7, 3) := by decide +kernel
theorem dX9_bit_4 : decode cX9_bit 4 = .ok (.iconst 1, 1) := by decide +kernel
theorem dX9_bit_5 : decode cX9_bit 5 = .ok (.goto 4, 3) := by decide +kernel
theorem dX9_bit_8 : decode cX9_bit 8 = .ok (.iconst 0, 1) := by decide +kernel
theorem dX9_bit_9 : decode cX9_bit 9 = .ok (.ireturn, 1) := by decide +kernel
theorem dX9_isPerson_0 : decode cX9_isPerson 0 = .ok (.iload_n 0, 1) := by decide +kernel
theorem dX9_isPerson_1 : decode cX9_isPerson 1 = .ok (.ifCond .lt 13, 3) := by decide +kernel
theorem dX9_isPerson_4 : decode cX9_isPerson 4 = .ok (.iload_n 0, 1) := by decide +kernel
theorem dX9_isPerson_5 : decode cX9_isPerson 5 = .ok (.bipush 8, 2) := by decide +kernel
theorem dX9_isPerson_7 : decode cX9_isPerson 7 = .ok (.if_icmp .ge 7, 3) := by decide +kernel
theorem dX9_isPerson_10 : decode cX9_isPerson 10 = .ok (.iconst 1, 1) := by decide +kernel
theorem dX9_isPerson_11 : decode cX9_isPerson 11 = .ok (.goto 4, 3) := by decide +kernel
theorem dX9_isPerson_14 : decode cX9_isPerson 14 = .ok (.iconst 0, 1) := by decide +kernel
theorem dX9_isPerson_15 : decode cX9_isPerson 15 = .ok (.ireturn, 1) := by decide +kernel
