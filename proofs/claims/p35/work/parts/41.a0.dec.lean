theorem dX10_again_0 : decode cX10_again 0 = .ok (.iload_n 1, 1) := by decide +kernel
theorem dX10_again_1 : decode cX10_again 1 = .ok (.iconst 0, 1) := by decide +kernel
theorem dX10_again_2 : decode cX10_again 2 = .ok (.iconst 2, 1) := by decide +kernel
theorem dX10_again_3 : decode cX10_again 3 = .ok (.invokestatic 33, 3) := by decide +kernel
theorem dX10_again_6 : decode cX10_again 6 = .ok (.ifCond .eq 12, 3) := by decide +kernel
theorem dX10_again_9 : decode cX10_again 9 = .ok (.aload_n 0, 1) := by decide +kernel
theorem dX10_again_10 : decode cX10_again 10 = .ok (.getfield 16, 3) := by decide +kernel
theorem dX10_again_13 : decode cX10_again 13 = .ok (.iload_n 1, 1) := by decide +kernel
theorem dX10_again_14 : decode cX10_again 14 = .ok (.baload, 1) := by decide +kernel
theorem dX10_again_15 : decode cX10_again 15 = .ok (.ifCond .ne 5, 3) := by decide +kernel
theorem dX10_again_18 : decode cX10_again 18 = .ok (.iconst 0, 1) := by decide +kernel
theorem dX10_again_19 : decode cX10_again 19 = .ok (.ireturn, 1) := by decide +kernel
theorem dX10_again_20 : decode cX10_again 20 = .ok (.sipush 2280, 3) := by decide +kernel
theorem dX10_again_23 : decode cX10_again 23 = .ok (.sipush 1742, 3) := by decide +kernel
theorem dX10_again_26 : decode cX10_again 26 = .ok (.iload_n 1, 1) := by decide +kernel
theorem dX10_again_27 : decode cX10_again 27 = .ok (.imul, 1) := by decide +kernel
theorem dX10_again_28 : decode cX10_again 28 = .ok (.iadd, 1) := by decide +kernel
theorem dX10_again_29 : decode cX10_again 29 = .ok (.istore_n 2, 1) := by decide +kernel
theorem dX10_again_30 : decode cX10_again 30 = .ok (.aload_n 0, 1) := by decide +kernel
theorem dX10_again_31 : decode cX10_again 31 = .ok (.iload_n 2, 1) := by decide +kernel
theorem dX10_again_32 : decode cX10_again 32 = .ok (.iconst 0, 1) := by decide +kernel
theorem dX10_again_33 : decode cX10_again 33 = .ok (.invokevirtual 165, 3) := by decide +kernel
theorem dX10_again_36 : decode cX10_again 36 = .ok (.iconst 0, 1) := by decide +kernel
theorem dX10_again_37 : decode cX10_again 37 = .ok (.istore_n 3, 1) := by decide +kernel
theorem dX10_again_38 : decode cX10_again 38 = .ok (.iload_n 3, 1) := by decide +kernel
theorem dX10_again_39 : decode cX10_again 39 = .ok (.sipush 600, 3) := by decide +kernel
theorem dX10_again_42 : decode cX10_again 42 = .ok (.if_icmp .ge 27, 3) := by decide +kernel
theorem dX10_again_45 : decode cX10_again 45 = .ok (.aload_n 0, 1) := by decide +kernel
theorem dX10_again_46 : decode cX10_again 46 = .ok (.getfield 13, 3) := by decide +kernel
theorem dX10_again_49 : decode cX10_again 49 = .ok (.iload_n 3, 1) := by decide +kernel
theorem dX10_again_50 : decode cX10_again 50 = .ok (.aload_n 0, 1) := by decide +kernel
theorem dX10_again_51 : decode cX10_again 51 = .ok (.getfield 7, 3) := by decide +kernel
theorem dX10_again_54 : decode cX10_again 54 = .ok (.iload_n 2, 1) := by decide +kernel
theorem dX10_again_55 : decode cX10_again 55 = .ok (.sipush 1140, 3) := by decide +kernel
theorem dX10_again_58 : decode cX10_again 58 = .ok (.iadd, 1) := by decide +kernel
theorem dX10_again_59 : decode cX10_again 59 = .ok (.iload_n 3, 1) := by decide +kernel
theorem dX10_again_60 : decode cX10_again 60 = .ok (.iadd, 1) := by decide +kernel
theorem dX10_again_61 : decode cX10_again 61 = .ok (.iaload, 1) := by decide +kernel
theorem dX10_again_62 : decode cX10_again 62 = .ok (.iastore, 1) := by decide +kernel
theorem dX10_again_63 : decode cX10_again 63 = .ok (.iinc 3 1, 3) := by decide +kernel
theorem dX10_again_66 : decode cX10_again 66 = .ok (.goto (-28), 3) := by decide +kernel
theorem dX10_again_69 : decode cX10_again 69 = .ok (.aload_n 0, 1) := by decide +kernel
theorem dX10_again_70 : decode cX10_again 70 = .ok (.aload_n 0, 1) := by decide +kernel
theorem dX10_again_71 : decode cX10_again 71 = .ok (.getfield 7, 3) := by decide +kernel
theorem dX10_again_74 : decode cX10_again 74 = .ok (.iload_n 2, 1) := by decide +kernel
theorem dX10_again_75 : decode cX10_again 75 = .ok (.sipush 1140, 3) := by decide +kernel
theorem dX10_again_78 : decode cX10_again 78 = .ok (.iadd, 1) := by decide +kernel
theorem dX10_again_79 : decode cX10_again 79 = .ok (.sipush 600, 3) := by decide +kernel
theorem dX10_again_82 : decode cX10_again 82 = .ok (.iadd, 1) := by decide +kernel
theorem dX10_again_83 : decode cX10_again 83 = .ok (.iaload, 1) := by decide +kernel
theorem dX10_again_84 : decode cX10_again 84 = .ok (.putfield 180, 3) := by decide +kernel
theorem dX10_again_87 : decode cX10_again 87 = .ok (.aload_n 0, 1) := by decide +kernel
theorem dX10_again_88 : decode cX10_again 88 = .ok (.aload_n 0, 1) := by decide +kernel
theorem dX10_again_89 : decode cX10_again 89 = .ok (.getfield 7, 3) := by decide +kernel
theorem dX10_again_92 : decode cX10_again 92 = .ok (.iload_n 2, 1) := by decide +kernel
theorem dX10_again_93 : decode cX10_again 93 = .ok (.sipush 1140, 3) := by decide +kernel
theorem dX10_again_96 : decode cX10_again 96 = .ok (.iadd, 1) := by decide +kernel
theorem dX10_again_97 : decode cX10_again 97 = .ok (.sipush 600, 3) := by decide +kernel
theorem dX10_again_100 : decode cX10_again 100 = .ok (.iadd, 1) := by decide +kernel
theorem dX10_again_101 : decode cX10_again 101 = .ok (.iconst 1, 1) := by decide +kernel
theorem dX10_again_102 : decode cX10_again 102 = .ok (.iadd, 1) := by decide +kernel
theorem dX10_again_103 : decode cX10_again 103 = .ok (.iaload, 1) := by decide +kernel
theorem dX10_again_104 : decode cX10_again 104 = .ok (.putfield 20, 3) := by decide +kernel
theorem dX10_again_107 : decode cX10_again 107 = .ok (.iconst 1, 1) := by decide +kernel
theorem dX10_again_108 : decode cX10_again 108 = .ok (.ireturn, 1) := by decide +kernel
theorem dX10_end_0 : decode cX10_end 0 = .ok (.iload_n 1, 1) := by decide +kernel
theorem dX10_end_1 : decode cX10_end 1 = .ok (.iconst 0, 1) := by decide +kernel
theorem dX10_end_2 : decode cX10_end 2 = .ok (.aload_n 0, 1) := by decide +kernel
theorem dX10_end_3 : decode cX10_end 3 = .ok (.getfield 180, 3) := by decide +kernel
theorem dX10_end_6 : decode cX10_end 6 = .ok (.invokestatic 33, 3) := by decide +kernel
theorem dX10_end_9 : decode cX10_end 9 = .ok (.ifCond .ne 5, 3) := by decide +kernel
theorem dX10_end_12 : decode cX10_end 12 = .ok (.iconst (-1), 1) := by decide +kernel
theorem dX10_end_13 : decode cX10_end 13 = .ok (.ireturn, 1) := by decide +kernel
theorem dX10_end_14 : decode cX10_end 14 = .ok (.aload_n 0, 1) := by decide +kernel
theorem dX10_end_15 : decode cX10_end 15 = .ok (.iload_n 1, 1) := by decide +kernel
theorem dX10_end_16 : decode cX10_end 16 = .ok (.putfield 180, 3) := by decide +kernel
theorem dX10_end_19 : decode cX10_end 19 = .ok (.iload_n 1, 1) := by decide +kernel
theorem dX10_end_20 : decode cX10_end 20 = .ok (.ireturn, 1) := by decide +kernel
theorem dX10_fault_0 : decode cX10_fault 0 = .ok (.aload_n 0, 1) := by decide +kernel
theorem dX10_fault_1 : decode cX10_fault 1 = .ok (.getfield 20, 3) := by decide +kernel
theorem dX10_fault_4 : decode cX10_fault 4 = .ok (.ireturn, 1) := by decide +kernel
theorem dX10_feed_0 : decode cX10_feed 0 = .ok (.aload_n 0, 1) := by decide +kernel
theorem dX10_feed_1 : decode cX10_feed 1 = .ok (.getfield 180, 3) := by decide +kernel
theorem dX10_feed_4 : decode cX10_feed 4 = .ok (.bipush 20, 2) := by decide +kernel
theorem dX10_feed_6 : decode cX10_feed 6 = .ok (.iadd, 1) := by decide +kernel
theorem dX10_feed_7 : decode cX10_feed 7 = .ok (.sipush 600, 3) := by decide +kernel
theorem dX10_feed_10 : decode cX10_feed 10 = .ok (.if_icmp .le 5, 3) := by decide +kernel
theorem dX10_feed_13 : decode cX10_feed 13 = .ok (.iconst (-1), 1) := by decide +kernel
theorem dX10_feed_14 : decode cX10_feed 14 = .ok (.ireturn, 1) := by decide +kernel
theorem dX10_feed_15 : decode cX10_feed 15 = .ok (.iconst 0, 1) := by decide +kernel
theorem dX10_feed_16 : decode cX10_feed 16 = .ok (.istore 6, 2) := by decide +kernel
theorem dX10_feed_18 : decode cX10_feed 18 = .ok (.iload 6, 2) := by decide +kernel
theorem dX10_feed_20 : decode cX10_feed 20 = .ok (.bipush 20, 2) := by decide +kernel
theorem dX10_feed_22 : decode cX10_feed 22 = .ok (.if_icmp .ge 86, 3) := by decide +kernel
theorem dX10_feed_25 : decode cX10_feed 25 = .ok (.iload 6, 2) := by decide +kernel
theorem dX10_feed_27 : decode cX10_feed 27 = .ok (.iconst 4, 1) := by decide +kernel
theorem dX10_feed_28 : decode cX10_feed 28 = .ok (.if_icmp .ge 7, 3) := by decide +kernel
theorem dX10_feed_31 : decode cX10_feed 31 = .ok (.iload_n 1, 1) := by decide +kernel
theorem dX10_feed_32 : decode cX10_feed 32 = .ok (.goto 39, 3) := by decide +kernel
theorem dX10_feed_35 : decode cX10_feed 35 = .ok (.iload 6, 2) := by decide +kernel
theorem dX10_feed_37 : decode cX10_feed 37 = .ok (.bipush 8, 2) := by decide +kernel
theorem dX10_feed_39 : decode cX10_feed 39 = .ok (.if_icmp .ge 7, 3) := by decide +kernel
theorem dX10_feed_42 : decode cX10_feed 42 = .ok (.iload_n 2, 1) := by decide +kernel
theorem dX10_feed_43 : decode cX10_feed 43 = .ok (.goto 28, 3) := by decide +kernel
theorem dX10_feed_46 : decode cX10_feed 46 = .ok (.iload 6, 2) := by decide +kernel
theorem dX10_feed_48 : decode cX10_feed 48 = .ok (.bipush 12, 2) := by decide +kernel
theorem dX10_feed_50 : decode cX10_feed 50 = .ok (.if_icmp .ge 7, 3) := by decide +kernel
theorem dX10_feed_53 : decode cX10_feed 53 = .ok (.iload_n 3, 1) := by decide +kernel
theorem dX10_feed_54 : decode cX10_feed 54 = .ok (.goto 17, 3) := by decide +kernel
theorem dX10_feed_57 : decode cX10_feed 57 = .ok (.iload 6, 2) := by decide +kernel
theorem dX10_feed_59 : decode cX10_feed 59 = .ok (.bipush 16, 2) := by decide +kernel
theorem dX10_feed_61 : decode cX10_feed 61 = .ok (.if_icmp .ge 8, 3) := by decide +kernel
theorem dX10_feed_64 : decode cX10_feed 64 = .ok (.iload 4, 2) := by decide +kernel
theorem dX10_feed_66 : decode cX10_feed 66 = .ok (.goto 5, 3) := by decide +kernel
theorem dX10_feed_69 : decode cX10_feed 69 = .ok (.iload 5, 2) := by decide +kernel
theorem dX10_feed_71 : decode cX10_feed 71 = .ok (.istore 7, 2) := by decide +kernel
theorem dX10_feed_73 : decode cX10_feed 73 = .ok (.aload_n 0, 1) := by decide +kernel
theorem dX10_feed_74 : decode cX10_feed 74 = .ok (.getfield 13, 3) := by decide +kernel
theorem dX10_feed_77 : decode cX10_feed 77 = .ok (.aload_n 0, 1) := by decide +kernel
theorem dX10_feed_78 : decode cX10_feed 78 = .ok (.getfield 180, 3) := by decide +kernel
theorem dX10_feed_81 : decode cX10_feed 81 = .ok (.iload 6, 2) := by decide +kernel
theorem dX10_feed_83 : decode cX10_feed 83 = .ok (.iadd, 1) := by decide +kernel
theorem dX10_feed_84 : decode cX10_feed 84 = .ok (.iload 7, 2) := by decide +kernel
theorem dX10_feed_86 : decode cX10_feed 86 = .ok (.bipush 24, 2) := by decide +kernel
theorem dX10_feed_88 : decode cX10_feed 88 = .ok (.bipush 8, 2) := by decide +kernel
theorem dX10_feed_90 : decode cX10_feed 90 = .ok (.iload 6, 2) := by decide +kernel
theorem dX10_feed_92 : decode cX10_feed 92 = .ok (.iconst 3, 1) := by decide +kernel
theorem dX10_feed_93 : decode cX10_feed 93 = .ok (.iand, 1) := by decide +kernel
theorem dX10_feed_94 : decode cX10_feed 94 = .ok (.imul, 1) := by decide +kernel
theorem dX10_feed_95 : decode cX10_feed 95 = .ok (.isub, 1) := by decide +kernel
theorem dX10_feed_96 : decode cX10_feed 96 = .ok (.ishr, 1) := by decide +kernel
theorem dX10_feed_97 : decode cX10_feed 97 = .ok (.sipush 255, 3) := by decide +kernel
theorem dX10_feed_100 : decode cX10_feed 100 = .ok (.iand, 1) := by decide +kernel
theorem dX10_feed_101 : decode cX10_feed 101 = .ok (.iastore, 1) := by decide +kernel
theorem dX10_feed_102 : decode cX10_feed 102 = .ok (.iinc 6 1, 3) := by decide +kernel
theorem dX10_feed_105 : decode cX10_feed 105 = .ok (.goto (-87), 3) := by decide +kernel
theorem dX10_feed_108 : decode cX10_feed 108 = .ok (.aload_n 0, 1) := by decide +kernel
theorem dX10_feed_109 : decode cX10_feed 109 = .ok (.dup, 1) := by decide +kernel
theorem dX10_feed_110 : decode cX10_feed 110 = .ok (.getfield 180, 3) := by decide +kernel
theorem dX10_feed_113 : decode cX10_feed 113 = .ok (.bipush 20, 2) := by decide +kernel
theorem dX10_feed_115 : decode cX10_feed 115 = .ok (.iadd, 1) := by decide +kernel
theorem dX10_feed_116 : decode cX10_feed 116 = .ok (.putfield 180, 3) := by decide +kernel
theorem dX10_feed_119 : decode cX10_feed 119 = .ok (.aload_n 0, 1) := by decide +kernel
theorem dX10_feed_120 : decode cX10_feed 120 = .ok (.getfield 180, 3) := by decide +kernel
theorem dX10_feed_123 : decode cX10_feed 123 = .ok (.ireturn, 1) := by decide +kernel
theorem dX10_image_0 : decode cX10_image 0 = .ok (.iload_n 1, 1) := by decide +kernel
theorem dX10_image_1 : decode cX10_image 1 = .ok (.iconst 0, 1) := by decide +kernel
theorem dX10_image_2 : decode cX10_image 2 = .ok (.iconst 2, 1) := by decide +kernel
theorem dX10_image_3 : decode cX10_image 3 = .ok (.invokestatic 33, 3) := by decide +kernel
theorem dX10_image_6 : decode cX10_image 6 = .ok (.ifCond .ne 5, 3) := by decide +kernel
theorem dX10_image_9 : decode cX10_image 9 = .ok (.iconst 0, 1) := by decide +kernel
theorem dX10_image_10 : decode cX10_image 10 = .ok (.ireturn, 1) := by decide +kernel
theorem dX10_image_11 : decode cX10_image 11 = .ok (.sipush 2280, 3) := by decide +kernel
theorem dX10_image_14 : decode cX10_image 14 = .ok (.sipush 1742, 3) := by decide +kernel
theorem dX10_image_17 : decode cX10_image 17 = .ok (.iload_n 1, 1) := by decide +kernel
theorem dX10_image_18 : decode cX10_image 18 = .ok (.imul, 1) := by decide +kernel
theorem dX10_image_19 : decode cX10_image 19 = .ok (.iadd, 1) := by decide +kernel
theorem dX10_image_20 : decode cX10_image 20 = .ok (.istore_n 2, 1) := by decide +kernel
theorem dX10_image_21 : decode cX10_image 21 = .ok (.aload_n 0, 1) := by decide +kernel
theorem dX10_image_22 : decode cX10_image 22 = .ok (.iconst 0, 1) := by decide +kernel
theorem dX10_image_23 : decode cX10_image 23 = .ok (.iload_n 2, 1) := by decide +kernel
theorem dX10_image_24 : decode cX10_image 24 = .ok (.invokevirtual 165, 3) := by decide +kernel
theorem dX10_image_27 : decode cX10_image 27 = .ok (.iconst 0, 1) := by decide +kernel
theorem dX10_image_28 : decode cX10_image 28 = .ok (.istore_n 3, 1) := by decide +kernel
theorem dX10_image_29 : decode cX10_image 29 = .ok (.iload_n 3, 1) := by decide +kernel
theorem dX10_image_30 : decode cX10_image 30 = .ok (.sipush 600, 3) := by decide +kernel
theorem dX10_image_33 : decode cX10_image 33 = .ok (.if_icmp .ge 27, 3) := by decide +kernel
theorem dX10_image_36 : decode cX10_image 36 = .ok (.aload_n 0, 1) := by decide +kernel
theorem dX10_image_37 : decode cX10_image 37 = .ok (.getfield 7, 3) := by decide +kernel
theorem dX10_image_40 : decode cX10_image 40 = .ok (.iload_n 2, 1) := by decide +kernel
theorem dX10_image_41 : decode cX10_image 41 = .ok (.sipush 1140, 3) := by decide +kernel
theorem dX10_image_44 : decode cX10_image 44 = .ok (.iadd, 1) := by decide +kernel
theorem dX10_image_45 : decode cX10_image 45 = .ok (.iload_n 3, 1) := by decide +kernel
theorem dX10_image_46 : decode cX10_image 46 = .ok (.iadd, 1) := by decide +kernel
theorem dX10_image_47 : decode cX10_image 47 = .ok (.aload_n 0, 1) := by decide +kernel
theorem dX10_image_48 : decode cX10_image 48 = .ok (.getfield 13, 3) := by decide +kernel
theorem dX10_image_51 : decode cX10_image 51 = .ok (.iload_n 3, 1) := by decide +kernel
theorem dX10_image_52 : decode cX10_image 52 = .ok (.iaload, 1) := by decide +kernel
theorem dX10_image_53 : decode cX10_image 53 = .ok (.iastore, 1) := by decide +kernel
theorem dX10_image_54 : decode cX10_image 54 = .ok (.iinc 3 1, 3) := by decide +kernel
theorem dX10_image_57 : decode cX10_image 57 = .ok (.goto (-28), 3) := by decide +kernel
theorem dX10_image_60 : decode cX10_image 60 = .ok (.aload_n 0, 1) := by decide +kernel
theorem dX10_image_61 : decode cX10_image 61 = .ok (.getfield 7, 3) := by decide +kernel
theorem dX10_image_64 : decode cX10_image 64 = .ok (.iload_n 2, 1) := by decide +kernel
theorem dX10_image_65 : decode cX10_image 65 = .ok (.sipush 1140, 3) := by decide +kernel
theorem dX10_image_68 : decode cX10_image 68 = .ok (.iadd, 1) := by decide +kernel
theorem dX10_image_69 : decode cX10_image 69 = .ok (.sipush 600, 3) := by decide +kernel
theorem dX10_image_72 : decode cX10_image 72 = .ok (.iadd, 1) := by decide +kernel
theorem dX10_image_73 : decode cX10_image 73 = .ok (.aload_n 0, 1) := by decide +kernel
theorem dX10_image_74 : decode cX10_image 74 = .ok (.getfield 180, 3) := by decide +kernel
theorem dX10_image_77 : decode cX10_image 77 = .ok (.iastore, 1) := by decide +kernel
theorem dX10_image_78 : decode cX10_image 78 = .ok (.aload_n 0, 1) := by decide +kernel
theorem dX10_image_79 : decode cX10_image 79 = .ok (.getfield 7, 3) := by decide +kernel
theorem dX10_image_82 : decode cX10_image 82 = .ok (.iload_n 2, 1) := by decide +kernel
theorem dX10_image_83 : decode cX10_image 83 = .ok (.sipush 1140, 3) := by decide +kernel
theorem dX10_image_86 : decode cX10_image 86 = .ok (.iadd, 1) := by decide +kernel
theorem dX10_image_87 : decode cX10_image 87 = .ok (.sipush 600, 3) := by decide +kernel
theorem dX10_image_90 : decode cX10_image 90 = .ok (.iadd, 1) := by decide +kernel
theorem dX10_image_91 : decode cX10_image 91 = .ok (.iconst 1, 1) := by decide +kernel
theorem dX10_image_92 : decode cX10_image 92 = .ok (.iadd, 1) := by decide +kernel
theorem dX10_image_93 : decode cX10_image 93 = .ok (.aload_n 0, 1) := by decide +kernel
theorem dX10_image_94 : decode cX10_image 94 = .ok (.getfield 20, 3) := by decide +kernel
theorem dX10_image_97 : decode cX10_image 97 = .ok (.iastore, 1) := by decide +kernel
theorem dX10_image_98 : decode cX10_image 98 = .ok (.aload_n 0, 1) := by decide +kernel
theorem dX10_image_99 : decode cX10_image 99 = .ok (.getfield 16, 3) := by decide +kernel
theorem dX10_image_102 : decode cX10_image 102 = .ok (.iload_n 1, 1) := by decide +kernel
theorem dX10_image_103 : decode cX10_image 103 = .ok (.iconst 1, 1) := by decide +kernel
theorem dX10_image_104 : decode cX10_image 104 = .ok (.bastore, 1) := by decide +kernel
theorem dX10_image_105 : decode cX10_image 105 = .ok (.iconst 1, 1) := by decide +kernel
theorem dX10_image_106 : decode cX10_image 106 = .ok (.ireturn, 1) := by decide +kernel
