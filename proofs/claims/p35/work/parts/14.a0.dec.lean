theorem dX8_acceptOne_0 : decode cX8_acceptOne 0 = .ok (.aload_n 0, 1) := by decide +kernel
theorem dX8_acceptOne_1 : decode cX8_acceptOne 1 = .ok (.iload_n 1, 1) := by decide +kernel
theorem dX8_acceptOne_2 : decode cX8_acceptOne 2 = .ok (.invokevirtual 68, 3) := by decide +kernel
theorem dX8_acceptOne_5 : decode cX8_acceptOne 5 = .ok (.ifCond .ne 6, 3) := by decide +kernel
theorem dX8_acceptOne_8 : decode cX8_acceptOne 8 = .ok (.bipush 30, 2) := by decide +kernel
theorem dX8_acceptOne_10 : decode cX8_acceptOne 10 = .ok (.ireturn, 1) := by decide +kernel
theorem dX8_acceptOne_11 : decode cX8_acceptOne 11 = .ok (.aload_n 0, 1) := by decide +kernel
theorem dX8_acceptOne_12 : decode cX8_acceptOne 12 = .ok (.getfield 17, 3) := by decide +kernel
theorem dX8_acceptOne_15 : decode cX8_acceptOne 15 = .ok (.iload_n 1, 1) := by decide +kernel
theorem dX8_acceptOne_16 : decode cX8_acceptOne 16 = .ok (.aaload, 1) := by decide +kernel
theorem dX8_acceptOne_17 : decode cX8_acceptOne 17 = .ok (.astore_n 2, 1) := by decide +kernel
theorem dX8_acceptOne_18 : decode cX8_acceptOne 18 = .ok (.aload_n 2, 1) := by decide +kernel
theorem dX8_acceptOne_19 : decode cX8_acceptOne 19 = .ok (.getfield 106, 3) := by decide +kernel
theorem dX8_acceptOne_22 : decode cX8_acceptOne 22 = .ok (.ifCond .ne 18, 3) := by decide +kernel
theorem dX8_acceptOne_25 : decode cX8_acceptOne 25 = .ok (.aload_n 2, 1) := by decide +kernel
theorem dX8_acceptOne_26 : decode cX8_acceptOne 26 = .ok (.getfield 83, 3) := by decide +kernel
theorem dX8_acceptOne_29 : decode cX8_acceptOne 29 = .ok (.iconst (-1), 1) := by decide +kernel
theorem dX8_acceptOne_30 : decode cX8_acceptOne 30 = .ok (.if_icmp .ne 10, 3) := by decide +kernel
theorem dX8_acceptOne_33 : decode cX8_acceptOne 33 = .ok (.aload_n 2, 1) := by decide +kernel
theorem dX8_acceptOne_34 : decode cX8_acceptOne 34 = .ok (.getfield 90, 3) := by decide +kernel
theorem dX8_acceptOne_37 : decode cX8_acceptOne 37 = .ok (.ifCond .eq 6, 3) := by decide +kernel
theorem dX8_acceptOne_40 : decode cX8_acceptOne 40 = .ok (.bipush 31, 2) := by decide +kernel
theorem dX8_acceptOne_42 : decode cX8_acceptOne 42 = .ok (.ireturn, 1) := by decide +kernel
theorem dX8_acceptOne_43 : decode cX8_acceptOne 43 = .ok (.aload_n 2, 1) := by decide +kernel
theorem dX8_acceptOne_44 : decode cX8_acceptOne 44 = .ok (.iconst 1, 1) := by decide +kernel
theorem dX8_acceptOne_45 : decode cX8_acceptOne 45 = .ok (.putfield 106, 3) := by decide +kernel
theorem dX8_acceptOne_48 : decode cX8_acceptOne 48 = .ok (.iconst 0, 1) := by decide +kernel
theorem dX8_acceptOne_49 : decode cX8_acceptOne 49 = .ok (.ireturn, 1) := by decide +kernel
theorem dX8_addBytes_0 : decode cX8_addBytes 0 = .ok (.aload_n 0, 1) := by decide +kernel
theorem dX8_addBytes_1 : decode cX8_addBytes 1 = .ok (.getfield 48, 3) := by decide +kernel
theorem dX8_addBytes_4 : decode cX8_addBytes 4 = .ok (.sipush 580, 3) := by decide +kernel
theorem dX8_addBytes_7 : decode cX8_addBytes 7 = .ok (.if_icmp .le 5, 3) := by decide +kernel
theorem dX8_addBytes_10 : decode cX8_addBytes 10 = .ok (.iconst (-1), 1) := by decide +kernel
theorem dX8_addBytes_11 : decode cX8_addBytes 11 = .ok (.ireturn, 1) := by decide +kernel
theorem dX8_addBytes_12 : decode cX8_addBytes 12 = .ok (.aload_n 0, 1) := by decide +kernel
theorem dX8_addBytes_13 : decode cX8_addBytes 13 = .ok (.iload_n 1, 1) := by decide +kernel
theorem dX8_addBytes_14 : decode cX8_addBytes 14 = .ok (.invokevirtual 64, 3) := by decide +kernel
theorem dX8_addBytes_17 : decode cX8_addBytes 17 = .ok (.aload_n 0, 1) := by decide +kernel
theorem dX8_addBytes_18 : decode cX8_addBytes 18 = .ok (.iload_n 2, 1) := by decide +kernel
theorem dX8_addBytes_19 : decode cX8_addBytes 19 = .ok (.invokevirtual 64, 3) := by decide +kernel
theorem dX8_addBytes_22 : decode cX8_addBytes 22 = .ok (.aload_n 0, 1) := by decide +kernel
theorem dX8_addBytes_23 : decode cX8_addBytes 23 = .ok (.iload_n 3, 1) := by decide +kernel
theorem dX8_addBytes_24 : decode cX8_addBytes 24 = .ok (.invokevirtual 64, 3) := by decide +kernel
theorem dX8_addBytes_27 : decode cX8_addBytes 27 = .ok (.aload_n 0, 1) := by decide +kernel
theorem dX8_addBytes_28 : decode cX8_addBytes 28 = .ok (.iload 4, 2) := by decide +kernel
theorem dX8_addBytes_30 : decode cX8_addBytes 30 = .ok (.invokevirtual 64, 3) := by decide +kernel
theorem dX8_addBytes_33 : decode cX8_addBytes 33 = .ok (.aload_n 0, 1) := by decide +kernel
theorem dX8_addBytes_34 : decode cX8_addBytes 34 = .ok (.iload 5, 2) := by decide +kernel
theorem dX8_addBytes_36 : decode cX8_addBytes 36 = .ok (.invokevirtual 64, 3) := by decide +kernel
theorem dX8_addBytes_39 : decode cX8_addBytes 39 = .ok (.aload_n 0, 1) := by decide +kernel
theorem dX8_addBytes_40 : decode cX8_addBytes 40 = .ok (.getfield 48, 3) := by decide +kernel
theorem dX8_addBytes_43 : decode cX8_addBytes 43 = .ok (.ireturn, 1) := by decide +kernel
theorem dX8_addNumber_0 : decode cX8_addNumber 0 = .ok (.bipush 24, 2) := by decide +kernel
theorem dX8_addNumber_2 : decode cX8_addNumber 2 = .ok (.istore_n 2, 1) := by decide +kernel
theorem dX8_addNumber_3 : decode cX8_addNumber 3 = .ok (.iload_n 2, 1) := by decide +kernel
theorem dX8_addNumber_4 : decode cX8_addNumber 4 = .ok (.ifCond .lt 32, 3) := by decide +kernel
theorem dX8_addNumber_7 : decode cX8_addNumber 7 = .ok (.aload_n 0, 1) := by decide +kernel
theorem dX8_addNumber_8 : decode cX8_addNumber 8 = .ok (.getfield 21, 3) := by decide +kernel
theorem dX8_addNumber_11 : decode cX8_addNumber 11 = .ok (.aload_n 0, 1) := by decide +kernel
theorem dX8_addNumber_12 : decode cX8_addNumber 12 = .ok (.getfield 48, 3) := by decide +kernel
theorem dX8_addNumber_15 : decode cX8_addNumber 15 = .ok (.iload_n 1, 1) := by decide +kernel
theorem dX8_addNumber_16 : decode cX8_addNumber 16 = .ok (.iload_n 2, 1) := by decide +kernel
theorem dX8_addNumber_17 : decode cX8_addNumber 17 = .ok (.ishr, 1) := by decide +kernel
theorem dX8_addNumber_18 : decode cX8_addNumber 18 = .ok (.i2b, 1) := by decide +kernel
theorem dX8_addNumber_19 : decode cX8_addNumber 19 = .ok (.bastore, 1) := by decide +kernel
theorem dX8_addNumber_20 : decode cX8_addNumber 20 = .ok (.aload_n 0, 1) := by decide +kernel
theorem dX8_addNumber_21 : decode cX8_addNumber 21 = .ok (.dup, 1) := by decide +kernel
theorem dX8_addNumber_22 : decode cX8_addNumber 22 = .ok (.getfield 48, 3) := by decide +kernel
theorem dX8_addNumber_25 : decode cX8_addNumber 25 = .ok (.iconst 1, 1) := by decide +kernel
theorem dX8_addNumber_26 : decode cX8_addNumber 26 = .ok (.iadd, 1) := by decide +kernel
theorem dX8_addNumber_27 : decode cX8_addNumber 27 = .ok (.putfield 48, 3) := by decide +kernel
theorem dX8_addNumber_30 : decode cX8_addNumber 30 = .ok (.iinc 2 (-8), 3) := by decide +kernel
theorem dX8_addNumber_33 : decode cX8_addNumber 33 = .ok (.goto (-30), 3) := by decide +kernel
theorem dX8_addNumber_36 : decode cX8_addNumber 36 = .ok (.return_, 1) := by decide +kernel
theorem dX8_begin_0 : decode cX8_begin 0 = .ok (.aload_n 0, 1) := by decide +kernel
theorem dX8_begin_1 : decode cX8_begin 1 = .ok (.iconst 0, 1) := by decide +kernel
theorem dX8_begin_2 : decode cX8_begin 2 = .ok (.putfield 29, 3) := by decide +kernel
theorem dX8_begin_5 : decode cX8_begin 5 = .ok (.aload_n 0, 1) := by decide +kernel
theorem dX8_begin_6 : decode cX8_begin 6 = .ok (.iconst 2, 1) := by decide +kernel
theorem dX8_begin_7 : decode cX8_begin 7 = .ok (.putfield 33, 3) := by decide +kernel
theorem dX8_begin_10 : decode cX8_begin 10 = .ok (.aload_n 0, 1) := by decide +kernel
theorem dX8_begin_11 : decode cX8_begin 11 = .ok (.iconst 0, 1) := by decide +kernel
theorem dX8_begin_12 : decode cX8_begin 12 = .ok (.putfield 36, 3) := by decide +kernel
theorem dX8_begin_15 : decode cX8_begin 15 = .ok (.aload_n 0, 1) := by decide +kernel
theorem dX8_begin_16 : decode cX8_begin 16 = .ok (.iconst 0, 1) := by decide +kernel
theorem dX8_begin_17 : decode cX8_begin 17 = .ok (.putfield 39, 3) := by decide +kernel
theorem dX8_begin_20 : decode cX8_begin 20 = .ok (.aload_n 0, 1) := by decide +kernel
theorem dX8_begin_21 : decode cX8_begin 21 = .ok (.iconst 0, 1) := by decide +kernel
theorem dX8_begin_22 : decode cX8_begin 22 = .ok (.putfield 42, 3) := by decide +kernel
theorem dX8_begin_25 : decode cX8_begin 25 = .ok (.aload_n 0, 1) := by decide +kernel
theorem dX8_begin_26 : decode cX8_begin 26 = .ok (.iconst 0, 1) := by decide +kernel
theorem dX8_begin_27 : decode cX8_begin 27 = .ok (.putfield 45, 3) := by decide +kernel
theorem dX8_begin_30 : decode cX8_begin 30 = .ok (.aload_n 0, 1) := by decide +kernel
theorem dX8_begin_31 : decode cX8_begin 31 = .ok (.iconst 0, 1) := by decide +kernel
theorem dX8_begin_32 : decode cX8_begin 32 = .ok (.putfield 48, 3) := by decide +kernel
theorem dX8_begin_35 : decode cX8_begin 35 = .ok (.aload_n 0, 1) := by decide +kernel
theorem dX8_begin_36 : decode cX8_begin 36 = .ok (.iconst (-1), 1) := by decide +kernel
theorem dX8_begin_37 : decode cX8_begin 37 = .ok (.putfield 51, 3) := by decide +kernel
theorem dX8_begin_40 : decode cX8_begin 40 = .ok (.iconst 0, 1) := by decide +kernel
theorem dX8_begin_41 : decode cX8_begin 41 = .ok (.istore_n 1, 1) := by decide +kernel
theorem dX8_begin_42 : decode cX8_begin 42 = .ok (.iload_n 1, 1) := by decide +kernel
theorem dX8_begin_43 : decode cX8_begin 43 = .ok (.bipush 8, 2) := by decide +kernel
theorem dX8_begin_45 : decode cX8_begin 45 = .ok (.if_icmp .ge 17, 3) := by decide +kernel
theorem dX8_begin_48 : decode cX8_begin 48 = .ok (.aload_n 0, 1) := by decide +kernel
theorem dX8_begin_49 : decode cX8_begin 49 = .ok (.getfield 9, 3) := by decide +kernel
theorem dX8_begin_52 : decode cX8_begin 52 = .ok (.iload_n 1, 1) := by decide +kernel
theorem dX8_begin_53 : decode cX8_begin 53 = .ok (.bipush 100, 2) := by decide +kernel
theorem dX8_begin_55 : decode cX8_begin 55 = .ok (.iastore, 1) := by decide +kernel
theorem dX8_begin_56 : decode cX8_begin 56 = .ok (.iinc 1 1, 3) := by decide +kernel
theorem dX8_begin_59 : decode cX8_begin 59 = .ok (.goto (-17), 3) := by decide +kernel
theorem dX8_begin_62 : decode cX8_begin 62 = .ok (.return_, 1) := by decide +kernel
theorem dX8_cashOfAll_0 : decode cX8_cashOfAll 0 = .ok (.iconst 0, 1) := by decide +kernel
theorem dX8_cashOfAll_1 : decode cX8_cashOfAll 1 = .ok (.istore_n 1, 1) := by decide +kernel
theorem dX8_cashOfAll_2 : decode cX8_cashOfAll 2 = .ok (.iconst 0, 1) := by decide +kernel
theorem dX8_cashOfAll_3 : decode cX8_cashOfAll 3 = .ok (.istore_n 2, 1) := by decide +kernel
theorem dX8_cashOfAll_4 : decode cX8_cashOfAll 4 = .ok (.iload_n 2, 1) := by decide +kernel
theorem dX8_cashOfAll_5 : decode cX8_cashOfAll 5 = .ok (.bipush 8, 2) := by decide +kernel
theorem dX8_cashOfAll_7 : decode cX8_cashOfAll 7 = .ok (.if_icmp .ge 18, 3) := by decide +kernel
theorem dX8_cashOfAll_10 : decode cX8_cashOfAll 10 = .ok (.iload_n 1, 1) := by decide +kernel
theorem dX8_cashOfAll_11 : decode cX8_cashOfAll 11 = .ok (.aload_n 0, 1) := by decide +kernel
theorem dX8_cashOfAll_12 : decode cX8_cashOfAll 12 = .ok (.getfield 9, 3) := by decide +kernel
theorem dX8_cashOfAll_15 : decode cX8_cashOfAll 15 = .ok (.iload_n 2, 1) := by decide +kernel
theorem dX8_cashOfAll_16 : decode cX8_cashOfAll 16 = .ok (.iaload, 1) := by decide +kernel
theorem dX8_cashOfAll_17 : decode cX8_cashOfAll 17 = .ok (.iadd, 1) := by decide +kernel
theorem dX8_cashOfAll_18 : decode cX8_cashOfAll 18 = .ok (.istore_n 1, 1) := by decide +kernel
theorem dX8_cashOfAll_19 : decode cX8_cashOfAll 19 = .ok (.iinc 2 1, 3) := by decide +kernel
theorem dX8_cashOfAll_22 : decode cX8_cashOfAll 22 = .ok (.goto (-18), 3) := by decide +kernel
theorem dX8_cashOfAll_25 : decode cX8_cashOfAll 25 = .ok (.iload_n 1, 1) := by decide +kernel
theorem dX8_cashOfAll_26 : decode cX8_cashOfAll 26 = .ok (.ireturn, 1) := by decide +kernel
theorem dX8_dishonouredBills_0 : decode cX8_dishonouredBills 0 = .ok (.iconst 0, 1) := by decide +kernel
theorem dX8_dishonouredBills_1 : decode cX8_dishonouredBills 1 = .ok (.istore_n 1, 1) := by decide +kernel
theorem dX8_dishonouredBills_2 : decode cX8_dishonouredBills 2 = .ok (.iconst 0, 1) := by decide +kernel
theorem dX8_dishonouredBills_3 : decode cX8_dishonouredBills 3 = .ok (.istore_n 2, 1) := by decide +kernel
theorem dX8_dishonouredBills_4 : decode cX8_dishonouredBills 4 = .ok (.iload_n 2, 1) := by decide +kernel
theorem dX8_dishonouredBills_5 : decode cX8_dishonouredBills 5 = .ok (.aload_n 0, 1) := by decide +kernel
theorem dX8_dishonouredBills_6 : decode cX8_dishonouredBills 6 = .ok (.getfield 36, 3) := by decide +kernel
theorem dX8_dishonouredBills_9 : decode cX8_dishonouredBills 9 = .ok (.if_icmp .ge 33, 3) := by decide +kernel
theorem dX8_dishonouredBills_12 : decode cX8_dishonouredBills 12 = .ok (.iload_n 1, 1) := by decide +kernel
theorem dX8_dishonouredBills_13 : decode cX8_dishonouredBills 13 = .ok (.aload_n 0, 1) := by decide +kernel
theorem dX8_dishonouredBills_14 : decode cX8_dishonouredBills 14 = .ok (.getfield 17, 3) := by decide +kernel
theorem dX8_dishonouredBills_17 : decode cX8_dishonouredBills 17 = .ok (.iload_n 2, 1) := by decide +kernel
theorem dX8_dishonouredBills_18 : decode cX8_dishonouredBills 18 = .ok (.aaload, 1) := by decide +kernel
theorem dX8_dishonouredBills_19 : decode cX8_dishonouredBills 19 = .ok (.getfield 83, 3) := by decide +kernel
theorem dX8_dishonouredBills_22 : decode cX8_dishonouredBills 22 = .ok (.iconst (-1), 1) := by decide +kernel
theorem dX8_dishonouredBills_23 : decode cX8_dishonouredBills 23 = .ok (.if_icmp .eq 7, 3) := by decide +kernel
theorem dX8_dishonouredBills_26 : decode cX8_dishonouredBills 26 = .ok (.iconst 1, 1) := by decide +kernel
theorem dX8_dishonouredBills_27 : decode cX8_dishonouredBills 27 = .ok (.goto 4, 3) := by decide +kernel
theorem dX8_dishonouredBills_30 : decode cX8_dishonouredBills 30 = .ok (.iconst 0, 1) := by decide +kernel
theorem dX8_dishonouredBills_31 : decode cX8_dishonouredBills 31 = .ok (.invokestatic 86, 3) := by decide +kernel
theorem dX8_dishonouredBills_34 : decode cX8_dishonouredBills 34 = .ok (.iadd, 1) := by decide +kernel
theorem dX8_dishonouredBills_35 : decode cX8_dishonouredBills 35 = .ok (.istore_n 1, 1) := by decide +kernel
theorem dX8_dishonouredBills_36 : decode cX8_dishonouredBills 36 = .ok (.iinc 2 1, 3) := by decide +kernel
theorem dX8_dishonouredBills_39 : decode cX8_dishonouredBills 39 = .ok (.goto (-35), 3) := by decide +kernel
theorem dX8_dishonouredBills_42 : decode cX8_dishonouredBills 42 = .ok (.iload_n 1, 1) := by decide +kernel
theorem dX8_dishonouredBills_43 : decode cX8_dishonouredBills 43 = .ok (.ireturn, 1) := by decide +kernel
theorem dX8_doneBills_0 : decode cX8_doneBills 0 = .ok (.iconst 0, 1) := by decide +kernel
theorem dX8_doneBills_1 : decode cX8_doneBills 1 = .ok (.istore_n 1, 1) := by decide +kernel
theorem dX8_doneBills_2 : decode cX8_doneBills 2 = .ok (.iconst 0, 1) := by decide +kernel
theorem dX8_doneBills_3 : decode cX8_doneBills 3 = .ok (.istore_n 2, 1) := by decide +kernel
theorem dX8_doneBills_4 : decode cX8_doneBills 4 = .ok (.iload_n 2, 1) := by decide +kernel
theorem dX8_doneBills_5 : decode cX8_doneBills 5 = .ok (.aload_n 0, 1) := by decide +kernel
theorem dX8_doneBills_6 : decode cX8_doneBills 6 = .ok (.getfield 36, 3) := by decide +kernel
theorem dX8_doneBills_9 : decode cX8_doneBills 9 = .ok (.if_icmp .ge 24, 3) := by decide +kernel
theorem dX8_doneBills_12 : decode cX8_doneBills 12 = .ok (.iload_n 1, 1) := by decide +kernel
theorem dX8_doneBills_13 : decode cX8_doneBills 13 = .ok (.aload_n 0, 1) := by decide +kernel
theorem dX8_doneBills_14 : decode cX8_doneBills 14 = .ok (.getfield 17, 3) := by decide +kernel
theorem dX8_doneBills_17 : decode cX8_doneBills 17 = .ok (.iload_n 2, 1) := by decide +kernel
theorem dX8_doneBills_18 : decode cX8_doneBills 18 = .ok (.aaload, 1) := by decide +kernel
theorem dX8_doneBills_19 : decode cX8_doneBills 19 = .ok (.getfield 90, 3) := by decide +kernel
theorem dX8_doneBills_22 : decode cX8_doneBills 22 = .ok (.invokestatic 86, 3) := by decide +kernel
theorem dX8_doneBills_25 : decode cX8_doneBills 25 = .ok (.iadd, 1) := by decide +kernel
theorem dX8_doneBills_26 : decode cX8_doneBills 26 = .ok (.istore_n 1, 1) := by decide +kernel
theorem dX8_doneBills_27 : decode cX8_doneBills 27 = .ok (.iinc 2 1, 3) := by decide +kernel
theorem dX8_doneBills_30 : decode cX8_doneBills 30 = .ok (.goto (-26), 3) := by decide +kernel
theorem dX8_doneBills_33 : decode cX8_doneBills 33 = .ok (.iload_n 1, 1) := by decide +kernel
theorem dX8_doneBills_34 : decode cX8_doneBills 34 = .ok (.ireturn, 1) := by decide +kernel
theorem dX8_drawOne_0 : decode cX8_drawOne 0 = .ok (.aload_n 0, 1) := by decide +kernel
theorem dX8_drawOne_1 : decode cX8_drawOne 1 = .ok (.getfield 36, 3) := by decide +kernel
theorem dX8_drawOne_4 : decode cX8_drawOne 4 = .ok (.iconst 4, 1) := by decide +kernel
theorem dX8_drawOne_5 : decode cX8_drawOne 5 = .ok (.if_icmp .ge 24, 3) := by decide +kernel
theorem dX8_drawOne_8 : decode cX8_drawOne 8 = .ok (.iload_n 1, 1) := by decide +kernel
theorem dX8_drawOne_9 : decode cX8_drawOne 9 = .ok (.invokestatic 94, 3) := by decide +kernel
theorem dX8_drawOne_12 : decode cX8_drawOne 12 = .ok (.ifCond .eq 17, 3) := by decide +kernel
theorem dX8_drawOne_15 : decode cX8_drawOne 15 = .ok (.iload_n 2, 1) := by decide +kernel
theorem dX8_drawOne_16 : decode cX8_drawOne 16 = .ok (.invokestatic 94, 3) := by decide +kernel
theorem dX8_drawOne_19 : decode cX8_drawOne 19 = .ok (.ifCond .eq 10, 3) := by decide +kernel
theorem dX8_drawOne_22 : decode cX8_drawOne 22 = .ok (.iload_n 3, 1) := by decide +kernel
theorem dX8_drawOne_23 : decode cX8_drawOne 23 = .ok (.invokestatic 94, 3) := by decide +kernel
theorem dX8_drawOne_26 : decode cX8_drawOne 26 = .ok (.ifCond .ne 6, 3) := by decide +kernel
theorem dX8_drawOne_29 : decode cX8_drawOne 29 = .ok (.bipush 30, 2) := by decide +kernel
theorem dX8_drawOne_31 : decode cX8_drawOne 31 = .ok (.ireturn, 1) := by decide +kernel
theorem dX8_drawOne_32 : decode cX8_drawOne 32 = .ok (.iload 4, 2) := by decide +kernel
theorem dX8_drawOne_34 : decode cX8_drawOne 34 = .ok (.iconst 1, 1) := by decide +kernel
theorem dX8_drawOne_35 : decode cX8_drawOne 35 = .ok (.if_icmp .lt 23, 3) := by decide +kernel
theorem dX8_drawOne_38 : decode cX8_drawOne 38 = .ok (.iload 4, 2) := by decide +kernel
theorem dX8_drawOne_40 : decode cX8_drawOne 40 = .ok (.sipush 999, 3) := by decide +kernel
theorem dX8_drawOne_43 : decode cX8_drawOne 43 = .ok (.if_icmp .gt 15, 3) := by decide +kernel
theorem dX8_drawOne_46 : decode cX8_drawOne 46 = .ok (.iload 5, 2) := by decide +kernel
theorem dX8_drawOne_48 : decode cX8_drawOne 48 = .ok (.ifCond .lt 10, 3) := by decide +kernel
theorem dX8_drawOne_51 : decode cX8_drawOne 51 = .ok (.iload 5, 2) := by decide +kernel
theorem dX8_drawOne_53 : decode cX8_drawOne 53 = .ok (.bipush 99, 2) := by decide +kernel
theorem dX8_drawOne_55 : decode cX8_drawOne 55 = .ok (.if_icmp .le 6, 3) := by decide +kernel
theorem dX8_drawOne_58 : decode cX8_drawOne 58 = .ok (.bipush 30, 2) := by decide +kernel
theorem dX8_drawOne_60 : decode cX8_drawOne 60 = .ok (.ireturn, 1) := by decide +kernel
theorem dX8_drawOne_61 : decode cX8_drawOne 61 = .ok (.aload_n 0, 1) := by decide +kernel
theorem dX8_drawOne_62 : decode cX8_drawOne 62 = .ok (.getfield 17, 3) := by decide +kernel
theorem dX8_drawOne_65 : decode cX8_drawOne 65 = .ok (.aload_n 0, 1) := by decide +kernel
theorem dX8_drawOne_66 : decode cX8_drawOne 66 = .ok (.getfield 36, 3) := by decide +kernel
theorem dX8_drawOne_69 : decode cX8_drawOne 69 = .ok (.aaload, 1) := by decide +kernel
theorem dX8_drawOne_70 : decode cX8_drawOne 70 = .ok (.astore 7, 2) := by decide +kernel
theorem dX8_drawOne_72 : decode cX8_drawOne 72 = .ok (.aload 7, 2) := by decide +kernel
theorem dX8_drawOne_74 : decode cX8_drawOne 74 = .ok (.iload_n 1, 1) := by decide +kernel
theorem dX8_drawOne_75 : decode cX8_drawOne 75 = .ok (.iload_n 2, 1) := by decide +kernel
theorem dX8_drawOne_76 : decode cX8_drawOne 76 = .ok (.iload_n 3, 1) := by decide +kernel
theorem dX8_drawOne_77 : decode cX8_drawOne 77 = .ok (.iload 6, 2) := by decide +kernel
theorem dX8_drawOne_79 : decode cX8_drawOne 79 = .ok (.invokevirtual 97, 3) := by decide +kernel
theorem dX8_drawOne_82 : decode cX8_drawOne 82 = .ok (.aload 7, 2) := by decide +kernel
theorem dX8_drawOne_84 : decode cX8_drawOne 84 = .ok (.iload 4, 2) := by decide +kernel
theorem dX8_drawOne_86 : decode cX8_drawOne 86 = .ok (.putfield 100, 3) := by decide +kernel
theorem dX8_drawOne_89 : decode cX8_drawOne 89 = .ok (.aload 7, 2) := by decide +kernel
theorem dX8_drawOne_91 : decode cX8_drawOne 91 = .ok (.aload_n 0, 1) := by decide +kernel
theorem dX8_drawOne_92 : decode cX8_drawOne 92 = .ok (.getfield 29, 3) := by decide +kernel
theorem dX8_drawOne_95 : decode cX8_drawOne 95 = .ok (.iload 5, 2) := by decide +kernel
theorem dX8_drawOne_97 : decode cX8_drawOne 97 = .ok (.iadd, 1) := by decide +kernel
theorem dX8_drawOne_98 : decode cX8_drawOne 98 = .ok (.putfield 103, 3) := by decide +kernel
theorem dX8_drawOne_101 : decode cX8_drawOne 101 = .ok (.aload_n 0, 1) := by decide +kernel
theorem dX8_drawOne_102 : decode cX8_drawOne 102 = .ok (.dup, 1) := by decide +kernel
theorem dX8_drawOne_103 : decode cX8_drawOne 103 = .ok (.getfield 36, 3) := by decide +kernel
theorem dX8_drawOne_106 : decode cX8_drawOne 106 = .ok (.iconst 1, 1) := by decide +kernel
theorem dX8_drawOne_107 : decode cX8_drawOne 107 = .ok (.iadd, 1) := by decide +kernel
theorem dX8_drawOne_108 : decode cX8_drawOne 108 = .ok (.putfield 36, 3) := by decide +kernel
theorem dX8_drawOne_111 : decode cX8_drawOne 111 = .ok (.iconst 0, 1) := by decide +kernel
theorem dX8_drawOne_112 : decode cX8_drawOne 112 = .ok (.ireturn, 1) := by decide +kernel
theorem dX8_giveDefence_0 : decode cX8_giveDefence 0 = .ok (.aload_n 0, 1) := by decide +kernel
theorem dX8_giveDefence_1 : decode cX8_giveDefence 1 = .ok (.iload_n 1, 1) := by decide +kernel
theorem dX8_giveDefence_2 : decode cX8_giveDefence 2 = .ok (.iload_n 2, 1) := by decide +kernel
theorem dX8_giveDefence_3 : decode cX8_giveDefence 3 = .ok (.invokevirtual 138, 3) := by decide +kernel
theorem dX8_giveDefence_6 : decode cX8_giveDefence 6 = .ok (.ifCond .ne 6, 3) := by decide +kernel
theorem dX8_giveDefence_9 : decode cX8_giveDefence 9 = .ok (.bipush 30, 2) := by decide +kernel
theorem dX8_giveDefence_11 : decode cX8_giveDefence 11 = .ok (.ireturn, 1) := by decide +kernel
theorem dX8_giveDefence_12 : decode cX8_giveDefence 12 = .ok (.aload_n 0, 1) := by decide +kernel
theorem dX8_giveDefence_13 : decode cX8_giveDefence 13 = .ok (.getfield 17, 3) := by decide +kernel
theorem dX8_giveDefence_16 : decode cX8_giveDefence 16 = .ok (.iload_n 1, 1) := by decide +kernel
theorem dX8_giveDefence_17 : decode cX8_giveDefence 17 = .ok (.aaload, 1) := by decide +kernel
theorem dX8_giveDefence_18 : decode cX8_giveDefence 18 = .ok (.getfield 141, 3) := by decide +kernel
theorem dX8_giveDefence_21 : decode cX8_giveDefence 21 = .ok (.astore 4, 2) := by decide +kernel
theorem dX8_giveDefence_23 : decode cX8_giveDefence 23 = .ok (.iload_n 3, 1) := by decide +kernel
theorem dX8_giveDefence_24 : decode cX8_giveDefence 24 = .ok (.ifCond .eq 7, 3) := by decide +kernel
theorem dX8_giveDefence_27 : decode cX8_giveDefence 27 = .ok (.iconst 1, 1) := by decide +kernel
theorem dX8_giveDefence_28 : decode cX8_giveDefence 28 = .ok (.goto 4, 3) := by decide +kernel
theorem dX8_giveDefence_31 : decode cX8_giveDefence 31 = .ok (.iconst 2, 1) := by decide +kernel
theorem dX8_giveDefence_32 : decode cX8_giveDefence 32 = .ok (.istore 5, 2) := by decide +kernel
theorem dX8_giveDefence_34 : decode cX8_giveDefence 34 = .ok (.aload 4, 2) := by decide +kernel
theorem dX8_giveDefence_36 : decode cX8_giveDefence 36 = .ok (.iload_n 2, 1) := by decide +kernel
theorem dX8_giveDefence_37 : decode cX8_giveDefence 37 = .ok (.iaload, 1) := by decide +kernel
theorem dX8_giveDefence_38 : decode cX8_giveDefence 38 = .ok (.iload 5, 2) := by decide +kernel
theorem dX8_giveDefence_40 : decode cX8_giveDefence 40 = .ok (.iand, 1) := by decide +kernel
theorem dX8_giveDefence_41 : decode cX8_giveDefence 41 = .ok (.ifCond .eq 6, 3) := by decide +kernel
theorem dX8_giveDefence_44 : decode cX8_giveDefence 44 = .ok (.bipush 31, 2) := by decide +kernel
theorem dX8_giveDefence_46 : decode cX8_giveDefence 46 = .ok (.ireturn, 1) := by decide +kernel
theorem dX8_giveDefence_47 : decode cX8_giveDefence 47 = .ok (.aload 4, 2) := by decide +kernel
theorem dX8_giveDefence_49 : decode cX8_giveDefence 49 = .ok (.iload_n 2, 1) := by decide +kernel
theorem dX8_giveDefence_50 : decode cX8_giveDefence 50 = .ok (.dup2, 1) := by decide +kernel
theorem dX8_giveDefence_51 : decode cX8_giveDefence 51 = .ok (.iaload, 1) := by decide +kernel
theorem dX8_giveDefence_52 : decode cX8_giveDefence 52 = .ok (.iload 5, 2) := by decide +kernel
theorem dX8_giveDefence_54 : decode cX8_giveDefence 54 = .ok (.ior, 1) := by decide +kernel
theorem dX8_giveDefence_55 : decode cX8_giveDefence 55 = .ok (.iastore, 1) := by decide +kernel
theorem dX8_giveDefence_56 : decode cX8_giveDefence 56 = .ok (.iconst 0, 1) := by decide +kernel
theorem dX8_giveDefence_57 : decode cX8_giveDefence 57 = .ok (.ireturn, 1) := by decide +kernel
theorem dX8_giveNotice_0 : decode cX8_giveNotice 0 = .ok (.iload_n 3, 1) := by decide +kernel
theorem dX8_giveNotice_1 : decode cX8_giveNotice 1 = .ok (.iconst 1, 1) := by decide +kernel
theorem dX8_giveNotice_2 : decode cX8_giveNotice 2 = .ok (.if_icmp .lt 26, 3) := by decide +kernel
theorem dX8_giveNotice_5 : decode cX8_giveNotice 5 = .ok (.aload_n 0, 1) := by decide +kernel
theorem dX8_giveNotice_6 : decode cX8_giveNotice 6 = .ok (.iload_n 1, 1) := by decide +kernel
theorem dX8_giveNotice_7 : decode cX8_giveNotice 7 = .ok (.iload_n 3, 1) := by decide +kernel
theorem dX8_giveNotice_8 : decode cX8_giveNotice 8 = .ok (.invokevirtual 138, 3) := by decide +kernel
theorem dX8_giveNotice_11 : decode cX8_giveNotice 11 = .ok (.ifCond .eq 17, 3) := by decide +kernel
theorem dX8_giveNotice_14 : decode cX8_giveNotice 14 = .ok (.iload_n 2, 1) := by decide +kernel
theorem dX8_giveNotice_15 : decode cX8_giveNotice 15 = .ok (.iconst (-1), 1) := by decide +kernel
theorem dX8_giveNotice_16 : decode cX8_giveNotice 16 = .ok (.if_icmp .eq 15, 3) := by decide +kernel
theorem dX8_giveNotice_19 : decode cX8_giveNotice 19 = .ok (.aload_n 0, 1) := by decide +kernel
theorem dX8_giveNotice_20 : decode cX8_giveNotice 20 = .ok (.iload_n 1, 1) := by decide +kernel
theorem dX8_giveNotice_21 : decode cX8_giveNotice 21 = .ok (.iload_n 2, 1) := by decide +kernel
theorem dX8_giveNotice_22 : decode cX8_giveNotice 22 = .ok (.invokevirtual 76, 3) := by decide +kernel
theorem dX8_giveNotice_25 : decode cX8_giveNotice 25 = .ok (.ifCond .ne 6, 3) := by decide +kernel
theorem dX8_giveNotice_28 : decode cX8_giveNotice 28 = .ok (.bipush 30, 2) := by decide +kernel
theorem dX8_giveNotice_30 : decode cX8_giveNotice 30 = .ok (.ireturn, 1) := by decide +kernel
theorem dX8_giveNotice_31 : decode cX8_giveNotice 31 = .ok (.aload_n 0, 1) := by decide +kernel
theorem dX8_giveNotice_32 : decode cX8_giveNotice 32 = .ok (.getfield 17, 3) := by decide +kernel
theorem dX8_giveNotice_35 : decode cX8_giveNotice 35 = .ok (.iload_n 1, 1) := by decide +kernel
theorem dX8_giveNotice_36 : decode cX8_giveNotice 36 = .ok (.aaload, 1) := by decide +kernel
theorem dX8_giveNotice_37 : decode cX8_giveNotice 37 = .ok (.astore 4, 2) := by decide +kernel
theorem dX8_giveNotice_39 : decode cX8_giveNotice 39 = .ok (.iload_n 3, 1) := by decide +kernel
theorem dX8_giveNotice_40 : decode cX8_giveNotice 40 = .ok (.iload_n 2, 1) := by decide +kernel
theorem dX8_giveNotice_41 : decode cX8_giveNotice 41 = .ok (.iconst (-1), 1) := by decide +kernel
theorem dX8_giveNotice_42 : decode cX8_giveNotice 42 = .ok (.if_icmp .ne 11, 3) := by decide +kernel
theorem dX8_giveNotice_45 : decode cX8_giveNotice 45 = .ok (.aload 4, 2) := by decide +kernel
theorem dX8_giveNotice_47 : decode cX8_giveNotice 47 = .ok (.invokevirtual 160, 3) := by decide +kernel
theorem dX8_giveNotice_50 : decode cX8_giveNotice 50 = .ok (.goto 4, 3) := by decide +kernel
theorem dX8_giveNotice_53 : decode cX8_giveNotice 53 = .ok (.iload_n 2, 1) := by decide +kernel
theorem dX8_giveNotice_54 : decode cX8_giveNotice 54 = .ok (.if_icmp .lt 6, 3) := by decide +kernel
theorem dX8_giveNotice_57 : decode cX8_giveNotice 57 = .ok (.bipush 30, 2) := by decide +kernel
theorem dX8_giveNotice_59 : decode cX8_giveNotice 59 = .ok (.ireturn, 1) := by decide +kernel
theorem dX8_giveNotice_60 : decode cX8_giveNotice 60 = .ok (.aload 4, 2) := by decide +kernel
theorem dX8_giveNotice_62 : decode cX8_giveNotice 62 = .ok (.getfield 163, 3) := by decide +kernel
theorem dX8_giveNotice_65 : decode cX8_giveNotice 65 = .ok (.iload_n 3, 1) := by decide +kernel
theorem dX8_giveNotice_66 : decode cX8_giveNotice 66 = .ok (.iaload, 1) := by decide +kernel
theorem dX8_giveNotice_67 : decode cX8_giveNotice 67 = .ok (.iconst (-1), 1) := by decide +kernel
theorem dX8_giveNotice_68 : decode cX8_giveNotice 68 = .ok (.if_icmp .ne 20, 3) := by decide +kernel
theorem dX8_giveNotice_71 : decode cX8_giveNotice 71 = .ok (.aload 4, 2) := by decide +kernel
theorem dX8_giveNotice_73 : decode cX8_giveNotice 73 = .ok (.iload_n 2, 1) := by decide +kernel
theorem dX8_giveNotice_74 : decode cX8_giveNotice 74 = .ok (.aload_n 0, 1) := by decide +kernel
theorem dX8_giveNotice_75 : decode cX8_giveNotice 75 = .ok (.getfield 29, 3) := by decide +kernel
theorem dX8_giveNotice_78 : decode cX8_giveNotice 78 = .ok (.aload_n 0, 1) := by decide +kernel
theorem dX8_giveNotice_79 : decode cX8_giveNotice 79 = .ok (.getfield 33, 3) := by decide +kernel
theorem dX8_giveNotice_82 : decode cX8_giveNotice 82 = .ok (.invokevirtual 166, 3) := by decide +kernel
theorem dX8_giveNotice_85 : decode cX8_giveNotice 85 = .ok (.ifCond .ne 6, 3) := by decide +kernel
theorem dX8_giveNotice_88 : decode cX8_giveNotice 88 = .ok (.bipush 31, 2) := by decide +kernel
theorem dX8_giveNotice_90 : decode cX8_giveNotice 90 = .ok (.ireturn, 1) := by decide +kernel
theorem dX8_giveNotice_91 : decode cX8_giveNotice 91 = .ok (.aload 4, 2) := by decide +kernel
theorem dX8_giveNotice_93 : decode cX8_giveNotice 93 = .ok (.getfield 163, 3) := by decide +kernel
theorem dX8_giveNotice_96 : decode cX8_giveNotice 96 = .ok (.iload_n 3, 1) := by decide +kernel
theorem dX8_giveNotice_97 : decode cX8_giveNotice 97 = .ok (.aload_n 0, 1) := by decide +kernel
theorem dX8_giveNotice_98 : decode cX8_giveNotice 98 = .ok (.getfield 29, 3) := by decide +kernel
theorem dX8_giveNotice_101 : decode cX8_giveNotice 101 = .ok (.iastore, 1) := by decide +kernel
theorem dX8_giveNotice_102 : decode cX8_giveNotice 102 = .ok (.iconst 0, 1) := by decide +kernel
theorem dX8_giveNotice_103 : decode cX8_giveNotice 103 = .ok (.ireturn, 1) := by decide +kernel
theorem dX8_payOne_0 : decode cX8_payOne 0 = .ok (.aload_n 0, 1) := by decide +kernel
theorem dX8_payOne_1 : decode cX8_payOne 1 = .ok (.iload_n 1, 1) := by decide +kernel
theorem dX8_payOne_2 : decode cX8_payOne 2 = .ok (.iload_n 2, 1) := by decide +kernel
theorem dX8_payOne_3 : decode cX8_payOne 3 = .ok (.invokevirtual 76, 3) := by decide +kernel
theorem dX8_payOne_6 : decode cX8_payOne 6 = .ok (.ifCond .ne 6, 3) := by decide +kernel
theorem dX8_payOne_9 : decode cX8_payOne 9 = .ok (.bipush 30, 2) := by decide +kernel
theorem dX8_payOne_11 : decode cX8_payOne 11 = .ok (.ireturn, 1) := by decide +kernel
theorem dX8_payOne_12 : decode cX8_payOne 12 = .ok (.aload_n 0, 1) := by decide +kernel
theorem dX8_payOne_13 : decode cX8_payOne 13 = .ok (.getfield 17, 3) := by decide +kernel
theorem dX8_payOne_16 : decode cX8_payOne 16 = .ok (.iload_n 1, 1) := by decide +kernel
theorem dX8_payOne_17 : decode cX8_payOne 17 = .ok (.aaload, 1) := by decide +kernel
theorem dX8_payOne_18 : decode cX8_payOne 18 = .ok (.astore_n 3, 1) := by decide +kernel
theorem dX8_payOne_19 : decode cX8_payOne 19 = .ok (.aload_n 3, 1) := by decide +kernel
theorem dX8_payOne_20 : decode cX8_payOne 20 = .ok (.iload_n 2, 1) := by decide +kernel
theorem dX8_payOne_21 : decode cX8_payOne 21 = .ok (.aload_n 0, 1) := by decide +kernel
theorem dX8_payOne_22 : decode cX8_payOne 22 = .ok (.getfield 29, 3) := by decide +kernel
theorem dX8_payOne_25 : decode cX8_payOne 25 = .ok (.invokevirtual 152, 3) := by decide +kernel
theorem dX8_payOne_28 : decode cX8_payOne 28 = .ok (.istore 4, 2) := by decide +kernel
theorem dX8_payOne_30 : decode cX8_payOne 30 = .ok (.iload 4, 2) := by decide +kernel
theorem dX8_payOne_32 : decode cX8_payOne 32 = .ok (.ifCond .eq 6, 3) := by decide +kernel
theorem dX8_payOne_35 : decode cX8_payOne 35 = .ok (.iload 4, 2) := by decide +kernel
theorem dX8_payOne_37 : decode cX8_payOne 37 = .ok (.ireturn, 1) := by decide +kernel
theorem dX8_payOne_38 : decode cX8_payOne 38 = .ok (.aload_n 3, 1) := by decide +kernel
theorem dX8_payOne_39 : decode cX8_payOne 39 = .ok (.iload_n 2, 1) := by decide +kernel
theorem dX8_payOne_40 : decode cX8_payOne 40 = .ok (.aload_n 0, 1) := by decide +kernel
theorem dX8_payOne_41 : decode cX8_payOne 41 = .ok (.getfield 9, 3) := by decide +kernel
theorem dX8_payOne_44 : decode cX8_payOne 44 = .ok (.invokevirtual 148, 3) := by decide +kernel
theorem dX8_payOne_47 : decode cX8_payOne 47 = .ok (.ifCond .ne 6, 3) := by decide +kernel
theorem dX8_payOne_50 : decode cX8_payOne 50 = .ok (.bipush 32, 2) := by decide +kernel
theorem dX8_payOne_52 : decode cX8_payOne 52 = .ok (.ireturn, 1) := by decide +kernel
theorem dX8_payOne_53 : decode cX8_payOne 53 = .ok (.aload_n 3, 1) := by decide +kernel
theorem dX8_payOne_54 : decode cX8_payOne 54 = .ok (.iload_n 2, 1) := by decide +kernel
theorem dX8_payOne_55 : decode cX8_payOne 55 = .ok (.aload_n 0, 1) := by decide +kernel
theorem dX8_payOne_56 : decode cX8_payOne 56 = .ok (.getfield 9, 3) := by decide +kernel
theorem dX8_payOne_59 : decode cX8_payOne 59 = .ok (.invokevirtual 156, 3) := by decide +kernel
theorem dX8_payOne_62 : decode cX8_payOne 62 = .ok (.aload_n 0, 1) := by decide +kernel
theorem dX8_payOne_63 : decode cX8_payOne 63 = .ok (.dup, 1) := by decide +kernel
theorem dX8_payOne_64 : decode cX8_payOne 64 = .ok (.getfield 39, 3) := by decide +kernel
theorem dX8_payOne_67 : decode cX8_payOne 67 = .ok (.iconst 1, 1) := by decide +kernel
theorem dX8_payOne_68 : decode cX8_payOne 68 = .ok (.iadd, 1) := by decide +kernel
theorem dX8_payOne_69 : decode cX8_payOne 69 = .ok (.putfield 39, 3) := by decide +kernel
theorem dX8_payOne_72 : decode cX8_payOne 72 = .ok (.iconst 0, 1) := by decide +kernel
theorem dX8_payOne_73 : decode cX8_payOne 73 = .ok (.ireturn, 1) := by decide +kernel
theorem dX8_presentOne_0 : decode cX8_presentOne 0 = .ok (.aload_n 0, 1) := by decide +kernel
theorem dX8_presentOne_1 : decode cX8_presentOne 1 = .ok (.iload_n 1, 1) := by decide +kernel
theorem dX8_presentOne_2 : decode cX8_presentOne 2 = .ok (.invokevirtual 68, 3) := by decide +kernel
theorem dX8_presentOne_5 : decode cX8_presentOne 5 = .ok (.ifCond .ne 6, 3) := by decide +kernel
theorem dX8_presentOne_8 : decode cX8_presentOne 8 = .ok (.bipush 30, 2) := by decide +kernel
theorem dX8_presentOne_10 : decode cX8_presentOne 10 = .ok (.ireturn, 1) := by decide +kernel
theorem dX8_presentOne_11 : decode cX8_presentOne 11 = .ok (.aload_n 0, 1) := by decide +kernel
theorem dX8_presentOne_12 : decode cX8_presentOne 12 = .ok (.getfield 17, 3) := by decide +kernel
theorem dX8_presentOne_15 : decode cX8_presentOne 15 = .ok (.iload_n 1, 1) := by decide +kernel
theorem dX8_presentOne_16 : decode cX8_presentOne 16 = .ok (.aaload, 1) := by decide +kernel
theorem dX8_presentOne_17 : decode cX8_presentOne 17 = .ok (.astore_n 2, 1) := by decide +kernel
theorem dX8_presentOne_18 : decode cX8_presentOne 18 = .ok (.aload_n 0, 1) := by decide +kernel
theorem dX8_presentOne_19 : decode cX8_presentOne 19 = .ok (.getfield 29, 3) := by decide +kernel
theorem dX8_presentOne_22 : decode cX8_presentOne 22 = .ok (.aload_n 2, 1) := by decide +kernel
theorem dX8_presentOne_23 : decode cX8_presentOne 23 = .ok (.getfield 103, 3) := by decide +kernel
theorem dX8_presentOne_26 : decode cX8_presentOne 26 = .ok (.if_icmp .lt 25, 3) := by decide +kernel
theorem dX8_presentOne_29 : decode cX8_presentOne 29 = .ok (.aload_n 2, 1) := by decide +kernel
theorem dX8_presentOne_30 : decode cX8_presentOne 30 = .ok (.getfield 90, 3) := by decide +kernel
theorem dX8_presentOne_33 : decode cX8_presentOne 33 = .ok (.ifCond .ne 18, 3) := by decide +kernel
theorem dX8_presentOne_36 : decode cX8_presentOne 36 = .ok (.aload_n 2, 1) := by decide +kernel
theorem dX8_presentOne_37 : decode cX8_presentOne 37 = .ok (.getfield 83, 3) := by decide +kernel
theorem dX8_presentOne_40 : decode cX8_presentOne 40 = .ok (.iconst (-1), 1) := by decide +kernel
theorem dX8_presentOne_41 : decode cX8_presentOne 41 = .ok (.if_icmp .ne 10, 3) := by decide +kernel
theorem dX8_presentOne_44 : decode cX8_presentOne 44 = .ok (.aload_n 2, 1) := by decide +kernel
theorem dX8_presentOne_45 : decode cX8_presentOne 45 = .ok (.invokevirtual 144, 3) := by decide +kernel
theorem dX8_presentOne_48 : decode cX8_presentOne 48 = .ok (.ifCond .ne 6, 3) := by decide +kernel
theorem dX8_presentOne_51 : decode cX8_presentOne 51 = .ok (.bipush 31, 2) := by decide +kernel
theorem dX8_presentOne_53 : decode cX8_presentOne 53 = .ok (.ireturn, 1) := by decide +kernel
theorem dX8_presentOne_54 : decode cX8_presentOne 54 = .ok (.aload_n 2, 1) := by decide +kernel
theorem dX8_presentOne_55 : decode cX8_presentOne 55 = .ok (.iconst 0, 1) := by decide +kernel
theorem dX8_presentOne_56 : decode cX8_presentOne 56 = .ok (.aload_n 0, 1) := by decide +kernel
theorem dX8_presentOne_57 : decode cX8_presentOne 57 = .ok (.getfield 9, 3) := by decide +kernel
theorem dX8_presentOne_60 : decode cX8_presentOne 60 = .ok (.invokevirtual 148, 3) := by decide +kernel
theorem dX8_presentOne_63 : decode cX8_presentOne 63 = .ok (.ifCond .eq 36, 3) := by decide +kernel
theorem dX8_presentOne_66 : decode cX8_presentOne 66 = .ok (.aload_n 2, 1) := by decide +kernel
theorem dX8_presentOne_67 : decode cX8_presentOne 67 = .ok (.iconst 0, 1) := by decide +kernel
theorem dX8_presentOne_68 : decode cX8_presentOne 68 = .ok (.aload_n 0, 1) := by decide +kernel
theorem dX8_presentOne_69 : decode cX8_presentOne 69 = .ok (.getfield 29, 3) := by decide +kernel
theorem dX8_presentOne_72 : decode cX8_presentOne 72 = .ok (.invokevirtual 152, 3) := by decide +kernel
theorem dX8_presentOne_75 : decode cX8_presentOne 75 = .ok (.ifCond .ne 24, 3) := by decide +kernel
theorem dX8_presentOne_78 : decode cX8_presentOne 78 = .ok (.aload_n 2, 1) := by decide +kernel
theorem dX8_presentOne_79 : decode cX8_presentOne 79 = .ok (.iconst 0, 1) := by decide +kernel
theorem dX8_presentOne_80 : decode cX8_presentOne 80 = .ok (.aload_n 0, 1) := by decide +kernel
theorem dX8_presentOne_81 : decode cX8_presentOne 81 = .ok (.getfield 9, 3) := by decide +kernel
theorem dX8_presentOne_84 : decode cX8_presentOne 84 = .ok (.invokevirtual 156, 3) := by decide +kernel
theorem dX8_presentOne_87 : decode cX8_presentOne 87 = .ok (.aload_n 0, 1) := by decide +kernel
theorem dX8_presentOne_88 : decode cX8_presentOne 88 = .ok (.dup, 1) := by decide +kernel
theorem dX8_presentOne_89 : decode cX8_presentOne 89 = .ok (.getfield 39, 3) := by decide +kernel
theorem dX8_presentOne_92 : decode cX8_presentOne 92 = .ok (.iconst 1, 1) := by decide +kernel
theorem dX8_presentOne_93 : decode cX8_presentOne 93 = .ok (.iadd, 1) := by decide +kernel
theorem dX8_presentOne_94 : decode cX8_presentOne 94 = .ok (.putfield 39, 3) := by decide +kernel
theorem dX8_presentOne_97 : decode cX8_presentOne 97 = .ok (.iconst 0, 1) := by decide +kernel
theorem dX8_presentOne_98 : decode cX8_presentOne 98 = .ok (.ireturn, 1) := by decide +kernel
theorem dX8_presentOne_99 : decode cX8_presentOne 99 = .ok (.aload_n 2, 1) := by decide +kernel
theorem dX8_presentOne_100 : decode cX8_presentOne 100 = .ok (.aload_n 0, 1) := by decide +kernel
theorem dX8_presentOne_101 : decode cX8_presentOne 101 = .ok (.getfield 29, 3) := by decide +kernel
theorem dX8_presentOne_104 : decode cX8_presentOne 104 = .ok (.putfield 83, 3) := by decide +kernel
theorem dX8_presentOne_107 : decode cX8_presentOne 107 = .ok (.iconst 1, 1) := by decide +kernel
theorem dX8_presentOne_108 : decode cX8_presentOne 108 = .ok (.ireturn, 1) := by decide +kernel
theorem dX8_releaseOne_0 : decode cX8_releaseOne 0 = .ok (.aload_n 0, 1) := by decide +kernel
theorem dX8_releaseOne_1 : decode cX8_releaseOne 1 = .ok (.iload_n 1, 1) := by decide +kernel
theorem dX8_releaseOne_2 : decode cX8_releaseOne 2 = .ok (.iload_n 2, 1) := by decide +kernel
theorem dX8_releaseOne_3 : decode cX8_releaseOne 3 = .ok (.invokevirtual 138, 3) := by decide +kernel
theorem dX8_releaseOne_6 : decode cX8_releaseOne 6 = .ok (.ifCond .ne 6, 3) := by decide +kernel
theorem dX8_releaseOne_9 : decode cX8_releaseOne 9 = .ok (.bipush 30, 2) := by decide +kernel
theorem dX8_releaseOne_11 : decode cX8_releaseOne 11 = .ok (.ireturn, 1) := by decide +kernel
theorem dX8_releaseOne_12 : decode cX8_releaseOne 12 = .ok (.aload_n 0, 1) := by decide +kernel
theorem dX8_releaseOne_13 : decode cX8_releaseOne 13 = .ok (.getfield 17, 3) := by decide +kernel
theorem dX8_releaseOne_16 : decode cX8_releaseOne 16 = .ok (.iload_n 1, 1) := by decide +kernel
theorem dX8_releaseOne_17 : decode cX8_releaseOne 17 = .ok (.aaload, 1) := by decide +kernel
theorem dX8_releaseOne_18 : decode cX8_releaseOne 18 = .ok (.astore_n 3, 1) := by decide +kernel
theorem dX8_releaseOne_19 : decode cX8_releaseOne 19 = .ok (.aload_n 3, 1) := by decide +kernel
theorem dX8_releaseOne_20 : decode cX8_releaseOne 20 = .ok (.invokevirtual 144, 3) := by decide +kernel
theorem dX8_releaseOne_23 : decode cX8_releaseOne 23 = .ok (.ifCond .eq 19, 3) := by decide +kernel
theorem dX8_releaseOne_26 : decode cX8_releaseOne 26 = .ok (.aload_n 3, 1) := by decide +kernel
theorem dX8_releaseOne_27 : decode cX8_releaseOne 27 = .ok (.getfield 170, 3) := by decide +kernel
theorem dX8_releaseOne_30 : decode cX8_releaseOne 30 = .ok (.iload_n 2, 1) := by decide +kernel
theorem dX8_releaseOne_31 : decode cX8_releaseOne 31 = .ok (.iaload, 1) := by decide +kernel
theorem dX8_releaseOne_32 : decode cX8_releaseOne 32 = .ok (.ifCond .ne 10, 3) := by decide +kernel
theorem dX8_releaseOne_35 : decode cX8_releaseOne 35 = .ok (.aload_n 3, 1) := by decide +kernel
theorem dX8_releaseOne_36 : decode cX8_releaseOne 36 = .ok (.getfield 90, 3) := by decide +kernel
theorem dX8_releaseOne_39 : decode cX8_releaseOne 39 = .ok (.ifCond .eq 6, 3) := by decide +kernel
theorem dX8_releaseOne_42 : decode cX8_releaseOne 42 = .ok (.bipush 31, 2) := by decide +kernel
theorem dX8_releaseOne_44 : decode cX8_releaseOne 44 = .ok (.ireturn, 1) := by decide +kernel
theorem dX8_releaseOne_45 : decode cX8_releaseOne 45 = .ok (.aload_n 3, 1) := by decide +kernel
theorem dX8_releaseOne_46 : decode cX8_releaseOne 46 = .ok (.iload_n 2, 1) := by decide +kernel
theorem dX8_releaseOne_47 : decode cX8_releaseOne 47 = .ok (.bipush 15, 2) := by decide +kernel
theorem dX8_releaseOne_49 : decode cX8_releaseOne 49 = .ok (.invokevirtual 173, 3) := by decide +kernel
theorem dX8_releaseOne_52 : decode cX8_releaseOne 52 = .ok (.iconst 0, 1) := by decide +kernel
theorem dX8_releaseOne_53 : decode cX8_releaseOne 53 = .ok (.ireturn, 1) := by decide +kernel
theorem dX8_setCash_0 : decode cX8_setCash 0 = .ok (.iload_n 1, 1) := by decide +kernel
theorem dX8_setCash_1 : decode cX8_setCash 1 = .ok (.invokestatic 94, 3) := by decide +kernel
theorem dX8_setCash_4 : decode cX8_setCash 4 = .ok (.ifCond .eq 14, 3) := by decide +kernel
theorem dX8_setCash_7 : decode cX8_setCash 7 = .ok (.iload_n 2, 1) := by decide +kernel
theorem dX8_setCash_8 : decode cX8_setCash 8 = .ok (.ifCond .lt 10, 3) := by decide +kernel
theorem dX8_setCash_11 : decode cX8_setCash 11 = .ok (.iload_n 2, 1) := by decide +kernel
theorem dX8_setCash_12 : decode cX8_setCash 12 = .ok (.sipush 9999, 3) := by decide +kernel
theorem dX8_setCash_15 : decode cX8_setCash 15 = .ok (.if_icmp .le 6, 3) := by decide +kernel
theorem dX8_setCash_18 : decode cX8_setCash 18 = .ok (.bipush 30, 2) := by decide +kernel
theorem dX8_setCash_20 : decode cX8_setCash 20 = .ok (.ireturn, 1) := by decide +kernel
theorem dX8_setCash_21 : decode cX8_setCash 21 = .ok (.aload_n 0, 1) := by decide +kernel
theorem dX8_setCash_22 : decode cX8_setCash 22 = .ok (.getfield 9, 3) := by decide +kernel
theorem dX8_setCash_25 : decode cX8_setCash 25 = .ok (.iload_n 1, 1) := by decide +kernel
theorem dX8_setCash_26 : decode cX8_setCash 26 = .ok (.iload_n 2, 1) := by decide +kernel
theorem dX8_setCash_27 : decode cX8_setCash 27 = .ok (.iastore, 1) := by decide +kernel
theorem dX8_setCash_28 : decode cX8_setCash 28 = .ok (.iconst 0, 1) := by decide +kernel
theorem dX8_setCash_29 : decode cX8_setCash 29 = .ok (.ireturn, 1) := by decide +kernel
