theorem dJ7_fill_53178_0 : decode cJ7_fill_53178 0 = .ok (.iconst 0, 1) := by decide +kernel
theorem dJ7_fill_53178_1 : decode cJ7_fill_53178 1 = .ok (.istore_n 2, 1) := by decide +kernel
theorem dJ7_fill_53178_2 : decode cJ7_fill_53178 2 = .ok (.aload_n 0, 1) := by decide +kernel
theorem dJ7_fill_53178_3 : decode cJ7_fill_53178 3 = .ok (.arraylength, 1) := by decide +kernel
theorem dJ7_fill_53178_4 : decode cJ7_fill_53178 4 = .ok (.istore_n 3, 1) := by decide +kernel
theorem dJ7_fill_53178_5 : decode cJ7_fill_53178 5 = .ok (.iload_n 2, 1) := by decide +kernel
theorem dJ7_fill_53178_6 : decode cJ7_fill_53178 6 = .ok (.iload_n 3, 1) := by decide +kernel
theorem dJ7_fill_53178_7 : decode cJ7_fill_53178 7 = .ok (.if_icmp .ge 13, 3) := by decide +kernel
theorem dJ7_fill_53178_10 : decode cJ7_fill_53178 10 = .ok (.aload_n 0, 1) := by decide +kernel
theorem dJ7_fill_53178_11 : decode cJ7_fill_53178 11 = .ok (.iload_n 2, 1) := by decide +kernel
theorem dJ7_fill_53178_12 : decode cJ7_fill_53178 12 = .ok (.iload_n 1, 1) := by decide +kernel
theorem dJ7_fill_53178_13 : decode cJ7_fill_53178 13 = .ok (.iastore, 1) := by decide +kernel
theorem dJ7_fill_53178_14 : decode cJ7_fill_53178 14 = .ok (.iinc 2 1, 3) := by decide +kernel
theorem dJ7_fill_53178_17 : decode cJ7_fill_53178 17 = .ok (.goto (-12), 3) := by decide +kernel
theorem dJ7_fill_53178_20 : decode cJ7_fill_53178 20 = .ok (.return_, 1) := by decide +kernel
theorem dX2_begin_0 : decode cX2_begin 0 = .ok (.aload_n 0, 1) := by decide +kernel
theorem dX2_begin_1 : decode cX2_begin 1 = .ok (.iload_n 2, 1) := by decide +kernel
theorem dX2_begin_2 : decode cX2_begin 2 = .ok (.ifCond .eq 7, 3) := by decide +kernel
theorem dX2_begin_5 : decode cX2_begin 5 = .ok (.iconst 1, 1) := by decide +kernel
theorem dX2_begin_6 : decode cX2_begin 6 = .ok (.goto 4, 3) := by decide +kernel
theorem dX2_begin_9 : decode cX2_begin 9 = .ok (.iconst 0, 1) := by decide +kernel
theorem dX2_begin_10 : decode cX2_begin 10 = .ok (.putfield 15, 3) := by decide +kernel
theorem dX2_begin_13 : decode cX2_begin 13 = .ok (.aload_n 0, 1) := by decide +kernel
theorem dX2_begin_14 : decode cX2_begin 14 = .ok (.iload_n 2, 1) := by decide +kernel
theorem dX2_begin_15 : decode cX2_begin 15 = .ok (.ifCond .eq 7, 3) := by decide +kernel
theorem dX2_begin_18 : decode cX2_begin 18 = .ok (.iconst (-1), 1) := by decide +kernel
theorem dX2_begin_19 : decode cX2_begin 19 = .ok (.goto 4, 3) := by decide +kernel
theorem dX2_begin_22 : decode cX2_begin 22 = .ok (.iload_n 1, 1) := by decide +kernel
theorem dX2_begin_23 : decode cX2_begin 23 = .ok (.putfield 19, 3) := by decide +kernel
theorem dX2_begin_26 : decode cX2_begin 26 = .ok (.aload_n 0, 1) := by decide +kernel
theorem dX2_begin_27 : decode cX2_begin 27 = .ok (.iconst (-1), 1) := by decide +kernel
theorem dX2_begin_28 : decode cX2_begin 28 = .ok (.putfield 22, 3) := by decide +kernel
theorem dX2_begin_31 : decode cX2_begin 31 = .ok (.aload_n 0, 1) := by decide +kernel
theorem dX2_begin_32 : decode cX2_begin 32 = .ok (.iconst 0, 1) := by decide +kernel
theorem dX2_begin_33 : decode cX2_begin 33 = .ok (.putfield 25, 3) := by decide +kernel
theorem dX2_begin_36 : decode cX2_begin 36 = .ok (.aload_n 0, 1) := by decide +kernel
theorem dX2_begin_37 : decode cX2_begin 37 = .ok (.iconst 0, 1) := by decide +kernel
theorem dX2_begin_38 : decode cX2_begin 38 = .ok (.putfield 28, 3) := by decide +kernel
theorem dX2_begin_41 : decode cX2_begin 41 = .ok (.aload_n 0, 1) := by decide +kernel
theorem dX2_begin_42 : decode cX2_begin 42 = .ok (.getfield 9, 3) := by decide +kernel
theorem dX2_begin_45 : decode cX2_begin 45 = .ok (.iconst 0, 1) := by decide +kernel
theorem dX2_begin_46 : decode cX2_begin 46 = .ok (.invokestatic 32, 3) := by decide +kernel
theorem dX2_begin_49 : decode cX2_begin 49 = .ok (.aload_n 0, 1) := by decide +kernel
theorem dX2_begin_50 : decode cX2_begin 50 = .ok (.iload_n 1, 1) := by decide +kernel
theorem dX2_begin_51 : decode cX2_begin 51 = .ok (.iconst 1, 1) := by decide +kernel
theorem dX2_begin_52 : decode cX2_begin 52 = .ok (.invokevirtual 38, 3) := by decide +kernel
theorem dX2_begin_55 : decode cX2_begin 55 = .ok (.return_, 1) := by decide +kernel
theorem dX2_breakAt_0 : decode cX2_breakAt 0 = .ok (.aload_n 0, 1) := by decide +kernel
theorem dX2_breakAt_1 : decode cX2_breakAt 1 = .ok (.iload_n 1, 1) := by decide +kernel
theorem dX2_breakAt_2 : decode cX2_breakAt 2 = .ok (.putfield 22, 3) := by decide +kernel
theorem dX2_breakAt_5 : decode cX2_breakAt 5 = .ok (.aload_n 0, 1) := by decide +kernel
theorem dX2_breakAt_6 : decode cX2_breakAt 6 = .ok (.iload_n 2, 1) := by decide +kernel
theorem dX2_breakAt_7 : decode cX2_breakAt 7 = .ok (.putfield 25, 3) := by decide +kernel
theorem dX2_breakAt_10 : decode cX2_breakAt 10 = .ok (.return_, 1) := by decide +kernel
theorem dX2_copy_0 : decode cX2_copy 0 = .ok (.aload_n 0, 1) := by decide +kernel
theorem dX2_copy_1 : decode cX2_copy 1 = .ok (.aload_n 1, 1) := by decide +kernel
theorem dX2_copy_2 : decode cX2_copy 2 = .ok (.getfield 15, 3) := by decide +kernel
theorem dX2_copy_5 : decode cX2_copy 5 = .ok (.putfield 15, 3) := by decide +kernel
theorem dX2_copy_8 : decode cX2_copy 8 = .ok (.aload_n 0, 1) := by decide +kernel
theorem dX2_copy_9 : decode cX2_copy 9 = .ok (.aload_n 1, 1) := by decide +kernel
theorem dX2_copy_10 : decode cX2_copy 10 = .ok (.getfield 19, 3) := by decide +kernel
theorem dX2_copy_13 : decode cX2_copy 13 = .ok (.putfield 19, 3) := by decide +kernel
theorem dX2_copy_16 : decode cX2_copy 16 = .ok (.aload_n 0, 1) := by decide +kernel
theorem dX2_copy_17 : decode cX2_copy 17 = .ok (.aload_n 1, 1) := by decide +kernel
theorem dX2_copy_18 : decode cX2_copy 18 = .ok (.getfield 65, 3) := by decide +kernel
theorem dX2_copy_21 : decode cX2_copy 21 = .ok (.putfield 65, 3) := by decide +kernel
theorem dX2_copy_24 : decode cX2_copy 24 = .ok (.aload_n 0, 1) := by decide +kernel
theorem dX2_copy_25 : decode cX2_copy 25 = .ok (.aload_n 1, 1) := by decide +kernel
theorem dX2_copy_26 : decode cX2_copy 26 = .ok (.getfield 68, 3) := by decide +kernel
theorem dX2_copy_29 : decode cX2_copy 29 = .ok (.putfield 68, 3) := by decide +kernel
theorem dX2_copy_32 : decode cX2_copy 32 = .ok (.aload_n 0, 1) := by decide +kernel
theorem dX2_copy_33 : decode cX2_copy 33 = .ok (.aload_n 1, 1) := by decide +kernel
theorem dX2_copy_34 : decode cX2_copy 34 = .ok (.getfield 22, 3) := by decide +kernel
theorem dX2_copy_37 : decode cX2_copy 37 = .ok (.putfield 22, 3) := by decide +kernel
theorem dX2_copy_40 : decode cX2_copy 40 = .ok (.aload_n 0, 1) := by decide +kernel
theorem dX2_copy_41 : decode cX2_copy 41 = .ok (.aload_n 1, 1) := by decide +kernel
theorem dX2_copy_42 : decode cX2_copy 42 = .ok (.getfield 25, 3) := by decide +kernel
theorem dX2_copy_45 : decode cX2_copy 45 = .ok (.putfield 25, 3) := by decide +kernel
theorem dX2_copy_48 : decode cX2_copy 48 = .ok (.aload_n 0, 1) := by decide +kernel
theorem dX2_copy_49 : decode cX2_copy 49 = .ok (.aload_n 1, 1) := by decide +kernel
theorem dX2_copy_50 : decode cX2_copy 50 = .ok (.getfield 28, 3) := by decide +kernel
theorem dX2_copy_53 : decode cX2_copy 53 = .ok (.putfield 28, 3) := by decide +kernel
theorem dX2_copy_56 : decode cX2_copy 56 = .ok (.aload_n 1, 1) := by decide +kernel
theorem dX2_copy_57 : decode cX2_copy 57 = .ok (.getfield 9, 3) := by decide +kernel
theorem dX2_copy_60 : decode cX2_copy 60 = .ok (.iconst 0, 1) := by decide +kernel
theorem dX2_copy_61 : decode cX2_copy 61 = .ok (.aload_n 0, 1) := by decide +kernel
theorem dX2_copy_62 : decode cX2_copy 62 = .ok (.getfield 9, 3) := by decide +kernel
theorem dX2_copy_65 : decode cX2_copy 65 = .ok (.iconst 0, 1) := by decide +kernel
theorem dX2_copy_66 : decode cX2_copy 66 = .ok (.bipush 8, 2) := by decide +kernel
theorem dX2_copy_68 : decode cX2_copy 68 = .ok (.invokestatic 71, 3) := by decide +kernel
theorem dX2_copy_71 : decode cX2_copy 71 = .ok (.return_, 1) := by decide +kernel
theorem dX2_delivered_0 : decode cX2_delivered 0 = .ok (.aload_n 0, 1) := by decide +kernel
theorem dX2_delivered_1 : decode cX2_delivered 1 = .ok (.getfield 15, 3) := by decide +kernel
theorem dX2_delivered_4 : decode cX2_delivered 4 = .ok (.iconst 1, 1) := by decide +kernel
theorem dX2_delivered_5 : decode cX2_delivered 5 = .ok (.if_icmp .ne 5, 3) := by decide +kernel
theorem dX2_delivered_8 : decode cX2_delivered 8 = .ok (.iconst 1, 1) := by decide +kernel
theorem dX2_delivered_9 : decode cX2_delivered 9 = .ok (.ireturn, 1) := by decide +kernel
theorem dX2_delivered_10 : decode cX2_delivered 10 = .ok (.aload_n 0, 1) := by decide +kernel
theorem dX2_delivered_11 : decode cX2_delivered 11 = .ok (.aload_n 1, 1) := by decide +kernel
theorem dX2_delivered_12 : decode cX2_delivered 12 = .ok (.getfield 77, 3) := by decide +kernel
theorem dX2_delivered_15 : decode cX2_delivered 15 = .ok (.aload_n 0, 1) := by decide +kernel
theorem dX2_delivered_16 : decode cX2_delivered 16 = .ok (.getfield 19, 3) := by decide +kernel
theorem dX2_delivered_19 : decode cX2_delivered 19 = .ok (.if_icmp .ne 21, 3) := by decide +kernel
theorem dX2_delivered_22 : decode cX2_delivered 22 = .ok (.aload_n 0, 1) := by decide +kernel
theorem dX2_delivered_23 : decode cX2_delivered 23 = .ok (.getfield 15, 3) := by decide +kernel
theorem dX2_delivered_26 : decode cX2_delivered 26 = .ok (.ifCond .ne 18, 3) := by decide +kernel
theorem dX2_delivered_29 : decode cX2_delivered 29 = .ok (.aload_n 1, 1) := by decide +kernel
theorem dX2_delivered_30 : decode cX2_delivered 30 = .ok (.getfield 77, 3) := by decide +kernel
theorem dX2_delivered_33 : decode cX2_delivered 33 = .ok (.aload_n 0, 1) := by decide +kernel
theorem dX2_delivered_34 : decode cX2_delivered 34 = .ok (.getfield 65, 3) := by decide +kernel
theorem dX2_delivered_37 : decode cX2_delivered 37 = .ok (.if_icmp .eq 7, 3) := by decide +kernel
theorem dX2_delivered_40 : decode cX2_delivered 40 = .ok (.iconst 1, 1) := by decide +kernel
theorem dX2_delivered_41 : decode cX2_delivered 41 = .ok (.goto 4, 3) := by decide +kernel
theorem dX2_delivered_44 : decode cX2_delivered 44 = .ok (.iconst 0, 1) := by decide +kernel
theorem dX2_delivered_45 : decode cX2_delivered 45 = .ok (.putfield 28, 3) := by decide +kernel
theorem dX2_delivered_48 : decode cX2_delivered 48 = .ok (.iconst 0, 1) := by decide +kernel
theorem dX2_delivered_49 : decode cX2_delivered 49 = .ok (.ireturn, 1) := by decide +kernel
theorem dX2_endorsed_0 : decode cX2_endorsed 0 = .ok (.aload_n 0, 1) := by decide +kernel
theorem dX2_endorsed_1 : decode cX2_endorsed 1 = .ok (.getfield 15, 3) := by decide +kernel
theorem dX2_endorsed_4 : decode cX2_endorsed 4 = .ok (.iconst 1, 1) := by decide +kernel
theorem dX2_endorsed_5 : decode cX2_endorsed 5 = .ok (.if_icmp .eq 23, 3) := by decide +kernel
theorem dX2_endorsed_8 : decode cX2_endorsed 8 = .ok (.aload_n 1, 1) := by decide +kernel
theorem dX2_endorsed_9 : decode cX2_endorsed 9 = .ok (.getfield 80, 3) := by decide +kernel
theorem dX2_endorsed_12 : decode cX2_endorsed 12 = .ok (.aload_n 0, 1) := by decide +kernel
theorem dX2_endorsed_13 : decode cX2_endorsed 13 = .ok (.getfield 19, 3) := by decide +kernel
theorem dX2_endorsed_16 : decode cX2_endorsed 16 = .ok (.if_icmp .eq 12, 3) := by decide +kernel
theorem dX2_endorsed_19 : decode cX2_endorsed 19 = .ok (.aload_n 0, 1) := by decide +kernel
theorem dX2_endorsed_20 : decode cX2_endorsed 20 = .ok (.iload_n 2, 1) := by decide +kernel
theorem dX2_endorsed_21 : decode cX2_endorsed 21 = .ok (.bipush 13, 2) := by decide +kernel
theorem dX2_endorsed_23 : decode cX2_endorsed 23 = .ok (.invokevirtual 83, 3) := by decide +kernel
theorem dX2_endorsed_26 : decode cX2_endorsed 26 = .ok (.iconst 0, 1) := by decide +kernel
theorem dX2_endorsed_27 : decode cX2_endorsed 27 = .ok (.ireturn, 1) := by decide +kernel
theorem dX2_endorsed_28 : decode cX2_endorsed 28 = .ok (.aload_n 0, 1) := by decide +kernel
theorem dX2_endorsed_29 : decode cX2_endorsed 29 = .ok (.getfield 15, 3) := by decide +kernel
theorem dX2_endorsed_32 : decode cX2_endorsed 32 = .ok (.iconst 1, 1) := by decide +kernel
theorem dX2_endorsed_33 : decode cX2_endorsed 33 = .ok (.if_icmp .eq 23, 3) := by decide +kernel
theorem dX2_endorsed_36 : decode cX2_endorsed 36 = .ok (.aload_n 1, 1) := by decide +kernel
theorem dX2_endorsed_37 : decode cX2_endorsed 37 = .ok (.invokevirtual 86, 3) := by decide +kernel
theorem dX2_endorsed_40 : decode cX2_endorsed 40 = .ok (.ifCond .eq 16, 3) := by decide +kernel
theorem dX2_endorsed_43 : decode cX2_endorsed 43 = .ok (.iload_n 3, 1) := by decide +kernel
theorem dX2_endorsed_44 : decode cX2_endorsed 44 = .ok (.ifCond .ne 12, 3) := by decide +kernel
theorem dX2_endorsed_47 : decode cX2_endorsed 47 = .ok (.aload_n 0, 1) := by decide +kernel
theorem dX2_endorsed_48 : decode cX2_endorsed 48 = .ok (.iload_n 2, 1) := by decide +kernel
theorem dX2_endorsed_49 : decode cX2_endorsed 49 = .ok (.bipush 12, 2) := by decide +kernel
theorem dX2_endorsed_51 : decode cX2_endorsed 51 = .ok (.invokevirtual 83, 3) := by decide +kernel
theorem dX2_endorsed_54 : decode cX2_endorsed 54 = .ok (.iconst 0, 1) := by decide +kernel
theorem dX2_endorsed_55 : decode cX2_endorsed 55 = .ok (.ireturn, 1) := by decide +kernel
theorem dX2_endorsed_56 : decode cX2_endorsed 56 = .ok (.aload_n 0, 1) := by decide +kernel
theorem dX2_endorsed_57 : decode cX2_endorsed 57 = .ok (.getfield 15, 3) := by decide +kernel
theorem dX2_endorsed_60 : decode cX2_endorsed 60 = .ok (.iconst 2, 1) := by decide +kernel
theorem dX2_endorsed_61 : decode cX2_endorsed 61 = .ok (.if_icmp .eq 11, 3) := by decide +kernel
theorem dX2_endorsed_64 : decode cX2_endorsed 64 = .ok (.aload_n 1, 1) := by decide +kernel
theorem dX2_endorsed_65 : decode cX2_endorsed 65 = .ok (.getfield 48, 3) := by decide +kernel
theorem dX2_endorsed_68 : decode cX2_endorsed 68 = .ok (.iconst 2, 1) := by decide +kernel
theorem dX2_endorsed_69 : decode cX2_endorsed 69 = .ok (.if_icmp .ne 18, 3) := by decide +kernel
theorem dX2_endorsed_72 : decode cX2_endorsed 72 = .ok (.aload_n 0, 1) := by decide +kernel
theorem dX2_endorsed_73 : decode cX2_endorsed 73 = .ok (.iconst 2, 1) := by decide +kernel
theorem dX2_endorsed_74 : decode cX2_endorsed 74 = .ok (.putfield 15, 3) := by decide +kernel
theorem dX2_endorsed_77 : decode cX2_endorsed 77 = .ok (.aload_n 0, 1) := by decide +kernel
theorem dX2_endorsed_78 : decode cX2_endorsed 78 = .ok (.aload_n 1, 1) := by decide +kernel
theorem dX2_endorsed_79 : decode cX2_endorsed 79 = .ok (.getfield 77, 3) := by decide +kernel
theorem dX2_endorsed_82 : decode cX2_endorsed 82 = .ok (.putfield 19, 3) := by decide +kernel
theorem dX2_endorsed_85 : decode cX2_endorsed 85 = .ok (.iconst 0, 1) := by decide +kernel
theorem dX2_endorsed_86 : decode cX2_endorsed 86 = .ok (.ireturn, 1) := by decide +kernel
theorem dX2_endorsed_87 : decode cX2_endorsed 87 = .ok (.aload_n 0, 1) := by decide +kernel
theorem dX2_endorsed_88 : decode cX2_endorsed 88 = .ok (.aload_n 1, 1) := by decide +kernel
theorem dX2_endorsed_89 : decode cX2_endorsed 89 = .ok (.getfield 48, 3) := by decide +kernel
theorem dX2_endorsed_92 : decode cX2_endorsed 92 = .ok (.ifCond .ne 7, 3) := by decide +kernel
theorem dX2_endorsed_95 : decode cX2_endorsed 95 = .ok (.iconst 1, 1) := by decide +kernel
theorem dX2_endorsed_96 : decode cX2_endorsed 96 = .ok (.goto 4, 3) := by decide +kernel
theorem dX2_endorsed_99 : decode cX2_endorsed 99 = .ok (.iconst 0, 1) := by decide +kernel
theorem dX2_endorsed_100 : decode cX2_endorsed 100 = .ok (.putfield 15, 3) := by decide +kernel
theorem dX2_endorsed_103 : decode cX2_endorsed 103 = .ok (.aload_n 0, 1) := by decide +kernel
theorem dX2_endorsed_104 : decode cX2_endorsed 104 = .ok (.aload_n 1, 1) := by decide +kernel
theorem dX2_endorsed_105 : decode cX2_endorsed 105 = .ok (.getfield 48, 3) := by decide +kernel
theorem dX2_endorsed_108 : decode cX2_endorsed 108 = .ok (.ifCond .ne 7, 3) := by decide +kernel
theorem dX2_endorsed_111 : decode cX2_endorsed 111 = .ok (.iconst (-1), 1) := by decide +kernel
theorem dX2_endorsed_112 : decode cX2_endorsed 112 = .ok (.goto 7, 3) := by decide +kernel
theorem dX2_endorsed_115 : decode cX2_endorsed 115 = .ok (.aload_n 1, 1) := by decide +kernel
theorem dX2_endorsed_116 : decode cX2_endorsed 116 = .ok (.getfield 77, 3) := by decide +kernel
theorem dX2_endorsed_119 : decode cX2_endorsed 119 = .ok (.putfield 19, 3) := by decide +kernel
theorem dX2_endorsed_122 : decode cX2_endorsed 122 = .ok (.iconst 1, 1) := by decide +kernel
theorem dX2_endorsed_123 : decode cX2_endorsed 123 = .ok (.ireturn, 1) := by decide +kernel
theorem dX2_entitles_0 : decode cX2_entitles 0 = .ok (.aload_n 0, 1) := by decide +kernel
theorem dX2_entitles_1 : decode cX2_entitles 1 = .ok (.getfield 22, 3) := by decide +kernel
theorem dX2_entitles_4 : decode cX2_entitles 4 = .ok (.iconst (-1), 1) := by decide +kernel
theorem dX2_entitles_5 : decode cX2_entitles 5 = .ok (.if_icmp .ne 30, 3) := by decide +kernel
theorem dX2_entitles_8 : decode cX2_entitles 8 = .ok (.aload_n 0, 1) := by decide +kernel
theorem dX2_entitles_9 : decode cX2_entitles 9 = .ok (.getfield 28, 3) := by decide +kernel
theorem dX2_entitles_12 : decode cX2_entitles 12 = .ok (.ifCond .ne 23, 3) := by decide +kernel
theorem dX2_entitles_15 : decode cX2_entitles 15 = .ok (.aload_n 0, 1) := by decide +kernel
theorem dX2_entitles_16 : decode cX2_entitles 16 = .ok (.getfield 15, 3) := by decide +kernel
theorem dX2_entitles_19 : decode cX2_entitles 19 = .ok (.iconst 1, 1) := by decide +kernel
theorem dX2_entitles_20 : decode cX2_entitles 20 = .ok (.if_icmp .eq 11, 3) := by decide +kernel
theorem dX2_entitles_23 : decode cX2_entitles 23 = .ok (.aload_n 0, 1) := by decide +kernel
theorem dX2_entitles_24 : decode cX2_entitles 24 = .ok (.getfield 19, 3) := by decide +kernel
theorem dX2_entitles_27 : decode cX2_entitles 27 = .ok (.iload_n 1, 1) := by decide +kernel
theorem dX2_entitles_28 : decode cX2_entitles 28 = .ok (.if_icmp .ne 7, 3) := by decide +kernel
theorem dX2_entitles_31 : decode cX2_entitles 31 = .ok (.iconst 1, 1) := by decide +kernel
theorem dX2_entitles_32 : decode cX2_entitles 32 = .ok (.goto 4, 3) := by decide +kernel
theorem dX2_entitles_35 : decode cX2_entitles 35 = .ok (.iconst 0, 1) := by decide +kernel
theorem dX2_entitles_36 : decode cX2_entitles 36 = .ok (.ireturn, 1) := by decide +kernel
theorem dX2_follow_0 : decode cX2_follow 0 = .ok (.aload_n 0, 1) := by decide +kernel
theorem dX2_follow_1 : decode cX2_follow 1 = .ok (.getfield 22, 3) := by decide +kernel
theorem dX2_follow_4 : decode cX2_follow 4 = .ok (.iconst (-1), 1) := by decide +kernel
theorem dX2_follow_5 : decode cX2_follow 5 = .ok (.if_icmp .eq 4, 3) := by decide +kernel
theorem dX2_follow_8 : decode cX2_follow 8 = .ok (.return_, 1) := by decide +kernel
theorem dX2_follow_9 : decode cX2_follow 9 = .ok (.iload_n 3, 1) := by decide +kernel
theorem dX2_follow_10 : decode cX2_follow 10 = .ok (.ifCond .eq 8, 3) := by decide +kernel
theorem dX2_follow_13 : decode cX2_follow 13 = .ok (.aload_n 0, 1) := by decide +kernel
theorem dX2_follow_14 : decode cX2_follow 14 = .ok (.iconst 0, 1) := by decide +kernel
theorem dX2_follow_15 : decode cX2_follow 15 = .ok (.putfield 28, 3) := by decide +kernel
theorem dX2_follow_18 : decode cX2_follow 18 = .ok (.aload_n 1, 1) := by decide +kernel
theorem dX2_follow_19 : decode cX2_follow 19 = .ok (.getfield 48, 3) := by decide +kernel
theorem dX2_follow_22 : decode cX2_follow 22 = .ok (.iconst 4, 1) := by decide +kernel
theorem dX2_follow_23 : decode cX2_follow 23 = .ok (.if_icmp .ne 11, 3) := by decide +kernel
theorem dX2_follow_26 : decode cX2_follow 26 = .ok (.aload_n 0, 1) := by decide +kernel
theorem dX2_follow_27 : decode cX2_follow 27 = .ok (.iconst 1, 1) := by decide +kernel
theorem dX2_follow_28 : decode cX2_follow 28 = .ok (.putfield 28, 3) := by decide +kernel
theorem dX2_follow_31 : decode cX2_follow 31 = .ok (.goto 37, 3) := by decide +kernel
theorem dX2_follow_34 : decode cX2_follow 34 = .ok (.aload_n 1, 1) := by decide +kernel
theorem dX2_follow_35 : decode cX2_follow 35 = .ok (.getfield 48, 3) := by decide +kernel
theorem dX2_follow_38 : decode cX2_follow 38 = .ok (.iconst 3, 1) := by decide +kernel
theorem dX2_follow_39 : decode cX2_follow 39 = .ok (.if_icmp .ne 14, 3) := by decide +kernel
theorem dX2_follow_42 : decode cX2_follow 42 = .ok (.aload_n 0, 1) := by decide +kernel
theorem dX2_follow_43 : decode cX2_follow 43 = .ok (.aload_n 1, 1) := by decide +kernel
theorem dX2_follow_44 : decode cX2_follow 44 = .ok (.invokevirtual 53, 3) := by decide +kernel
theorem dX2_follow_47 : decode cX2_follow 47 = .ok (.ifCond .eq 21, 3) := by decide +kernel
theorem dX2_follow_50 : decode cX2_follow 50 = .ok (.goto 13, 3) := by decide +kernel
theorem dX2_follow_53 : decode cX2_follow 53 = .ok (.aload_n 0, 1) := by decide +kernel
theorem dX2_follow_54 : decode cX2_follow 54 = .ok (.aload_n 1, 1) := by decide +kernel
theorem dX2_follow_55 : decode cX2_follow 55 = .ok (.iload_n 2, 1) := by decide +kernel
theorem dX2_follow_56 : decode cX2_follow 56 = .ok (.iload_n 3, 1) := by decide +kernel
theorem dX2_follow_57 : decode cX2_follow 57 = .ok (.invokevirtual 57, 3) := by decide +kernel
theorem dX2_follow_60 : decode cX2_follow 60 = .ok (.ifCond .eq 8, 3) := by decide +kernel
theorem dX2_follow_63 : decode cX2_follow 63 = .ok (.aload_n 0, 1) := by decide +kernel
theorem dX2_follow_64 : decode cX2_follow 64 = .ok (.aload_n 1, 1) := by decide +kernel
theorem dX2_follow_65 : decode cX2_follow 65 = .ok (.invokevirtual 61, 3) := by decide +kernel
theorem dX2_follow_68 : decode cX2_follow 68 = .ok (.return_, 1) := by decide +kernel
theorem dX2_give_0 : decode cX2_give 0 = .ok (.aload_n 0, 1) := by decide +kernel
theorem dX2_give_1 : decode cX2_give 1 = .ok (.getfield 28, 3) := by decide +kernel
theorem dX2_give_4 : decode cX2_give 4 = .ok (.ifCond .ne 19, 3) := by decide +kernel
theorem dX2_give_7 : decode cX2_give 7 = .ok (.aload_n 0, 1) := by decide +kernel
theorem dX2_give_8 : decode cX2_give 8 = .ok (.aload_n 1, 1) := by decide +kernel
theorem dX2_give_9 : decode cX2_give 9 = .ok (.getfield 77, 3) := by decide +kernel
theorem dX2_give_12 : decode cX2_give 12 = .ok (.aload_n 0, 1) := by decide +kernel
theorem dX2_give_13 : decode cX2_give 13 = .ok (.aload_n 1, 1) := by decide +kernel
theorem dX2_give_14 : decode cX2_give 14 = .ok (.invokevirtual 90, 3) := by decide +kernel
theorem dX2_give_17 : decode cX2_give 17 = .ok (.invokevirtual 38, 3) := by decide +kernel
theorem dX2_give_20 : decode cX2_give 20 = .ok (.goto 43, 3) := by decide +kernel
theorem dX2_give_23 : decode cX2_give 23 = .ok (.aload_n 1, 1) := by decide +kernel
theorem dX2_give_24 : decode cX2_give 24 = .ok (.getfield 77, 3) := by decide +kernel
theorem dX2_give_27 : decode cX2_give 27 = .ok (.aload_n 0, 1) := by decide +kernel
theorem dX2_give_28 : decode cX2_give 28 = .ok (.getfield 65, 3) := by decide +kernel
theorem dX2_give_31 : decode cX2_give 31 = .ok (.if_icmp .ne 11, 3) := by decide +kernel
theorem dX2_give_34 : decode cX2_give 34 = .ok (.aload_n 0, 1) := by decide +kernel
theorem dX2_give_35 : decode cX2_give 35 = .ok (.iconst 0, 1) := by decide +kernel
theorem dX2_give_36 : decode cX2_give 36 = .ok (.putfield 28, 3) := by decide +kernel
theorem dX2_give_39 : decode cX2_give 39 = .ok (.goto 24, 3) := by decide +kernel
theorem dX2_give_42 : decode cX2_give 42 = .ok (.aload_n 1, 1) := by decide +kernel
theorem dX2_give_43 : decode cX2_give 43 = .ok (.getfield 94, 3) := by decide +kernel
theorem dX2_give_46 : decode cX2_give 46 = .ok (.ifCond .eq 17, 3) := by decide +kernel
theorem dX2_give_49 : decode cX2_give 49 = .ok (.aload_n 0, 1) := by decide +kernel
theorem dX2_give_50 : decode cX2_give 50 = .ok (.aload_n 1, 1) := by decide +kernel
theorem dX2_give_51 : decode cX2_give 51 = .ok (.getfield 77, 3) := by decide +kernel
theorem dX2_give_54 : decode cX2_give 54 = .ok (.iconst 3, 1) := by decide +kernel
theorem dX2_give_55 : decode cX2_give 55 = .ok (.invokevirtual 38, 3) := by decide +kernel
theorem dX2_give_58 : decode cX2_give 58 = .ok (.aload_n 0, 1) := by decide +kernel
theorem dX2_give_59 : decode cX2_give 59 = .ok (.iconst 0, 1) := by decide +kernel
theorem dX2_give_60 : decode cX2_give 60 = .ok (.putfield 28, 3) := by decide +kernel
theorem dX2_give_63 : decode cX2_give 63 = .ok (.return_, 1) := by decide +kernel
theorem dX2_gradeOf_0 : decode cX2_gradeOf 0 = .ok (.aload_n 0, 1) := by decide +kernel
theorem dX2_gradeOf_1 : decode cX2_gradeOf 1 = .ok (.getfield 9, 3) := by decide +kernel
theorem dX2_gradeOf_4 : decode cX2_gradeOf 4 = .ok (.aload_n 1, 1) := by decide +kernel
theorem dX2_gradeOf_5 : decode cX2_gradeOf 5 = .ok (.getfield 77, 3) := by decide +kernel
theorem dX2_gradeOf_8 : decode cX2_gradeOf 8 = .ok (.iaload, 1) := by decide +kernel
theorem dX2_gradeOf_9 : decode cX2_gradeOf 9 = .ok (.ifCond .eq 13, 3) := by decide +kernel
theorem dX2_gradeOf_12 : decode cX2_gradeOf 12 = .ok (.aload_n 0, 1) := by decide +kernel
theorem dX2_gradeOf_13 : decode cX2_gradeOf 13 = .ok (.getfield 9, 3) := by decide +kernel
theorem dX2_gradeOf_16 : decode cX2_gradeOf 16 = .ok (.aload_n 1, 1) := by decide +kernel
theorem dX2_gradeOf_17 : decode cX2_gradeOf 17 = .ok (.getfield 77, 3) := by decide +kernel
theorem dX2_gradeOf_20 : decode cX2_gradeOf 20 = .ok (.iaload, 1) := by decide +kernel
theorem dX2_gradeOf_21 : decode cX2_gradeOf 21 = .ok (.ireturn, 1) := by decide +kernel
theorem dX2_gradeOf_22 : decode cX2_gradeOf 22 = .ok (.aload_n 1, 1) := by decide +kernel
theorem dX2_gradeOf_23 : decode cX2_gradeOf 23 = .ok (.getfield 94, 3) := by decide +kernel
theorem dX2_gradeOf_26 : decode cX2_gradeOf 26 = .ok (.ifCond .eq 5, 3) := by decide +kernel
theorem dX2_gradeOf_29 : decode cX2_gradeOf 29 = .ok (.iconst 3, 1) := by decide +kernel
theorem dX2_gradeOf_30 : decode cX2_gradeOf 30 = .ok (.ireturn, 1) := by decide +kernel
theorem dX2_gradeOf_31 : decode cX2_gradeOf 31 = .ok (.aload_n 0, 1) := by decide +kernel
theorem dX2_gradeOf_32 : decode cX2_gradeOf 32 = .ok (.getfield 68, 3) := by decide +kernel
theorem dX2_gradeOf_35 : decode cX2_gradeOf 35 = .ok (.iconst 2, 1) := by decide +kernel
theorem dX2_gradeOf_36 : decode cX2_gradeOf 36 = .ok (.if_icmp .lt 7, 3) := by decide +kernel
theorem dX2_gradeOf_39 : decode cX2_gradeOf 39 = .ok (.iconst 2, 1) := by decide +kernel
theorem dX2_gradeOf_40 : decode cX2_gradeOf 40 = .ok (.goto 4, 3) := by decide +kernel
theorem dX2_gradeOf_43 : decode cX2_gradeOf 43 = .ok (.iconst 1, 1) := by decide +kernel
theorem dX2_gradeOf_44 : decode cX2_gradeOf 44 = .ok (.ireturn, 1) := by decide +kernel
theorem dX2_own_0 : decode cX2_own 0 = .ok (.aload_n 0, 1) := by decide +kernel
theorem dX2_own_1 : decode cX2_own 1 = .ok (.iload_n 1, 1) := by decide +kernel
theorem dX2_own_2 : decode cX2_own 2 = .ok (.putfield 65, 3) := by decide +kernel
theorem dX2_own_5 : decode cX2_own 5 = .ok (.aload_n 0, 1) := by decide +kernel
theorem dX2_own_6 : decode cX2_own 6 = .ok (.iload_n 2, 1) := by decide +kernel
theorem dX2_own_7 : decode cX2_own 7 = .ok (.putfield 68, 3) := by decide +kernel
theorem dX2_own_10 : decode cX2_own 10 = .ok (.aload_n 0, 1) := by decide +kernel
theorem dX2_own_11 : decode cX2_own 11 = .ok (.getfield 9, 3) := by decide +kernel
theorem dX2_own_14 : decode cX2_own 14 = .ok (.iload_n 1, 1) := by decide +kernel
theorem dX2_own_15 : decode cX2_own 15 = .ok (.iaload, 1) := by decide +kernel
theorem dX2_own_16 : decode cX2_own 16 = .ok (.ifCond .ne 10, 3) := by decide +kernel
theorem dX2_own_19 : decode cX2_own 19 = .ok (.aload_n 0, 1) := by decide +kernel
theorem dX2_own_20 : decode cX2_own 20 = .ok (.getfield 9, 3) := by decide +kernel
theorem dX2_own_23 : decode cX2_own 23 = .ok (.iload_n 1, 1) := by decide +kernel
theorem dX2_own_24 : decode cX2_own 24 = .ok (.iload_n 2, 1) := by decide +kernel
theorem dX2_own_25 : decode cX2_own 25 = .ok (.iastore, 1) := by decide +kernel
theorem dX2_own_26 : decode cX2_own 26 = .ok (.return_, 1) := by decide +kernel
theorem dX6_copy_0 : decode cX6_copy 0 = .ok (.aload_n 0, 1) := by decide +kernel
theorem dX6_copy_1 : decode cX6_copy 1 = .ok (.aload_n 1, 1) := by decide +kernel
theorem dX6_copy_2 : decode cX6_copy 2 = .ok (.getfield 18, 3) := by decide +kernel
theorem dX6_copy_5 : decode cX6_copy 5 = .ok (.putfield 18, 3) := by decide +kernel
theorem dX6_copy_8 : decode cX6_copy 8 = .ok (.aload_n 0, 1) := by decide +kernel
theorem dX6_copy_9 : decode cX6_copy 9 = .ok (.aload_n 1, 1) := by decide +kernel
theorem dX6_copy_10 : decode cX6_copy 10 = .ok (.getfield 15, 3) := by decide +kernel
theorem dX6_copy_13 : decode cX6_copy 13 = .ok (.putfield 15, 3) := by decide +kernel
theorem dX6_copy_16 : decode cX6_copy 16 = .ok (.aload_n 0, 1) := by decide +kernel
theorem dX6_copy_17 : decode cX6_copy 17 = .ok (.aload_n 1, 1) := by decide +kernel
theorem dX6_copy_18 : decode cX6_copy 18 = .ok (.getfield 9, 3) := by decide +kernel
theorem dX6_copy_21 : decode cX6_copy 21 = .ok (.putfield 9, 3) := by decide +kernel
theorem dX6_copy_24 : decode cX6_copy 24 = .ok (.aload_n 0, 1) := by decide +kernel
theorem dX6_copy_25 : decode cX6_copy 25 = .ok (.aload_n 1, 1) := by decide +kernel
theorem dX6_copy_26 : decode cX6_copy 26 = .ok (.getfield 21, 3) := by decide +kernel
theorem dX6_copy_29 : decode cX6_copy 29 = .ok (.putfield 21, 3) := by decide +kernel
theorem dX6_copy_32 : decode cX6_copy 32 = .ok (.aload_n 0, 1) := by decide +kernel
theorem dX6_copy_33 : decode cX6_copy 33 = .ok (.aload_n 1, 1) := by decide +kernel
theorem dX6_copy_34 : decode cX6_copy 34 = .ok (.getfield 24, 3) := by decide +kernel
theorem dX6_copy_37 : decode cX6_copy 37 = .ok (.putfield 24, 3) := by decide +kernel
theorem dX6_copy_40 : decode cX6_copy 40 = .ok (.aload_n 0, 1) := by decide +kernel
theorem dX6_copy_41 : decode cX6_copy 41 = .ok (.aload_n 1, 1) := by decide +kernel
theorem dX6_copy_42 : decode cX6_copy 42 = .ok (.getfield 27, 3) := by decide +kernel
theorem dX6_copy_45 : decode cX6_copy 45 = .ok (.putfield 27, 3) := by decide +kernel
theorem dX6_copy_48 : decode cX6_copy 48 = .ok (.aload_n 0, 1) := by decide +kernel
theorem dX6_copy_49 : decode cX6_copy 49 = .ok (.aload_n 1, 1) := by decide +kernel
theorem dX6_copy_50 : decode cX6_copy 50 = .ok (.getfield 30, 3) := by decide +kernel
theorem dX6_copy_53 : decode cX6_copy 53 = .ok (.putfield 30, 3) := by decide +kernel
theorem dX6_copy_56 : decode cX6_copy 56 = .ok (.aload_n 0, 1) := by decide +kernel
theorem dX6_copy_57 : decode cX6_copy 57 = .ok (.aload_n 1, 1) := by decide +kernel
theorem dX6_copy_58 : decode cX6_copy 58 = .ok (.getfield 33, 3) := by decide +kernel
theorem dX6_copy_61 : decode cX6_copy 61 = .ok (.putfield 33, 3) := by decide +kernel
theorem dX6_copy_64 : decode cX6_copy 64 = .ok (.aload_n 0, 1) := by decide +kernel
theorem dX6_copy_65 : decode cX6_copy 65 = .ok (.aload_n 1, 1) := by decide +kernel
theorem dX6_copy_66 : decode cX6_copy 66 = .ok (.getfield 36, 3) := by decide +kernel
theorem dX6_copy_69 : decode cX6_copy 69 = .ok (.putfield 36, 3) := by decide +kernel
theorem dX6_copy_72 : decode cX6_copy 72 = .ok (.aload_n 0, 1) := by decide +kernel
theorem dX6_copy_73 : decode cX6_copy 73 = .ok (.aload_n 1, 1) := by decide +kernel
theorem dX6_copy_74 : decode cX6_copy 74 = .ok (.getfield 40, 3) := by decide +kernel
theorem dX6_copy_77 : decode cX6_copy 77 = .ok (.putfield 40, 3) := by decide +kernel
theorem dX6_copy_80 : decode cX6_copy 80 = .ok (.aload_n 0, 1) := by decide +kernel
theorem dX6_copy_81 : decode cX6_copy 81 = .ok (.aload_n 1, 1) := by decide +kernel
theorem dX6_copy_82 : decode cX6_copy 82 = .ok (.getfield 43, 3) := by decide +kernel
theorem dX6_copy_85 : decode cX6_copy 85 = .ok (.putfield 43, 3) := by decide +kernel
theorem dX6_copy_88 : decode cX6_copy 88 = .ok (.return_, 1) := by decide +kernel
theorem dX6_forged_0 : decode cX6_forged 0 = .ok (.aload_n 0, 1) := by decide +kernel
theorem dX6_forged_1 : decode cX6_forged 1 = .ok (.getfield 9, 3) := by decide +kernel
theorem dX6_forged_4 : decode cX6_forged 4 = .ok (.iconst (-1), 1) := by decide +kernel
theorem dX6_forged_5 : decode cX6_forged 5 = .ok (.if_icmp .eq 18, 3) := by decide +kernel
theorem dX6_forged_8 : decode cX6_forged 8 = .ok (.aload_n 0, 1) := by decide +kernel
theorem dX6_forged_9 : decode cX6_forged 9 = .ok (.getfield 9, 3) := by decide +kernel
theorem dX6_forged_12 : decode cX6_forged 12 = .ok (.aload_n 0, 1) := by decide +kernel
theorem dX6_forged_13 : decode cX6_forged 13 = .ok (.getfield 15, 3) := by decide +kernel
theorem dX6_forged_16 : decode cX6_forged 16 = .ok (.if_icmp .eq 7, 3) := by decide +kernel
theorem dX6_forged_19 : decode cX6_forged 19 = .ok (.iconst 1, 1) := by decide +kernel
theorem dX6_forged_20 : decode cX6_forged 20 = .ok (.goto 4, 3) := by decide +kernel
theorem dX6_forged_23 : decode cX6_forged 23 = .ok (.iconst 0, 1) := by decide +kernel
theorem dX6_forged_24 : decode cX6_forged 24 = .ok (.ireturn, 1) := by decide +kernel
theorem dX6_signed_0 : decode cX6_signed 0 = .ok (.aload_n 0, 1) := by decide +kernel
theorem dX6_signed_1 : decode cX6_signed 1 = .ok (.getfield 9, 3) := by decide +kernel
theorem dX6_signed_4 : decode cX6_signed 4 = .ok (.iconst (-1), 1) := by decide +kernel
theorem dX6_signed_5 : decode cX6_signed 5 = .ok (.if_icmp .eq 18, 3) := by decide +kernel
theorem dX6_signed_8 : decode cX6_signed 8 = .ok (.aload_n 0, 1) := by decide +kernel
theorem dX6_signed_9 : decode cX6_signed 9 = .ok (.getfield 9, 3) := by decide +kernel
theorem dX6_signed_12 : decode cX6_signed 12 = .ok (.aload_n 0, 1) := by decide +kernel
theorem dX6_signed_13 : decode cX6_signed 13 = .ok (.getfield 15, 3) := by decide +kernel
theorem dX6_signed_16 : decode cX6_signed 16 = .ok (.if_icmp .ne 7, 3) := by decide +kernel
theorem dX6_signed_19 : decode cX6_signed 19 = .ok (.iconst 1, 1) := by decide +kernel
theorem dX6_signed_20 : decode cX6_signed 20 = .ok (.goto 4, 3) := by decide +kernel
theorem dX6_signed_23 : decode cX6_signed 23 = .ok (.iconst 0, 1) := by decide +kernel
theorem dX6_signed_24 : decode cX6_signed 24 = .ok (.ireturn, 1) := by decide +kernel
