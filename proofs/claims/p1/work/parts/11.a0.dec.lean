theorem dX8_addBytes_0 : decode cX8_addBytes 0 = .ok (.aload_n 0, 1) := by decide +kernel
theorem dX8_addBytes_1 : decode cX8_addBytes 1 = .ok (.getfield 48, 3) := by decide +kernel
theorem dX8_addBytes_4 : decode cX8_addBytes 4 = .ok (.sipush 580, 3) := by decide +kernel
theorem dX8_addBytes_7 : decode cX8_addBytes 7 = .ok (.if_icmp .le 5, 3) := by decide +kernel
theorem dX8_addBytes_12 : decode cX8_addBytes 12 = .ok (.aload_n 0, 1) := by decide +kernel
theorem dX8_addBytes_13 : decode cX8_addBytes 13 = .ok (.iload_n 1, 1) := by decide +kernel
theorem dX8_addBytes_14 : decode cX8_addBytes 14 = .ok (.invokevirtual 64, 3) := by decide +kernel
theorem dX8_addBytes_17 : decode cX8_addBytes 17 = .ok (.aload_n 0, 1) := by decide +kernel
theorem dX8_addBytes_18 : decode cX8_addBytes 18 = .ok (.iload_n 2, 1) := by decide +kernel
theorem dX8_addBytes_19 : decode cX8_addBytes 19 = .ok (.invokevirtual 64, 3) := by decide +kernel
theorem dX8_addBytes_22 : decode cX8_addBytes 22 = .ok (.aload_n 0, 1) := by decide +kernel
theorem dX8_addBytes_23 : decode cX8_addBytes 23 = .ok (.iload_n 3, 1) := by decide +kernel
theorem dX8_addBytes_24 : decode cX8_addBytes 24 = .ok (.invokevirtual 64, 3) := by decide +kernel
theorem dX8_addBytes_27 : decode cX8_addBytes 27 = .ok (.aload_n 0, 1) := by decide +kernel
theorem dX8_addBytes_28 : decode cX8_addBytes 28 = .ok (.iload 4, 2) := by decide +kernel
theorem dX8_addBytes_30 : decode cX8_addBytes 30 = .ok (.invokevirtual 64, 3) := by decide +kernel
theorem dX8_addBytes_33 : decode cX8_addBytes 33 = .ok (.aload_n 0, 1) := by decide +kernel
theorem dX8_addBytes_34 : decode cX8_addBytes 34 = .ok (.iload 5, 2) := by decide +kernel
theorem dX8_addBytes_36 : decode cX8_addBytes 36 = .ok (.invokevirtual 64, 3) := by decide +kernel
theorem dX8_addBytes_39 : decode cX8_addBytes 39 = .ok (.aload_n 0, 1) := by decide +kernel
theorem dX8_addBytes_40 : decode cX8_addBytes 40 = .ok (.getfield 48, 3) := by decide +kernel
theorem dX8_addBytes_43 : decode cX8_addBytes 43 = .ok (.ireturn, 1) := by decide +kernel
theorem dX8_addNumber_0 : decode cX8_addNumber 0 = .ok (.bipush 24, 2) := by decide +kernel
theorem dX8_addNumber_2 : decode cX8_addNumber 2 = .ok (.istore_n 2, 1) := by decide +kernel
theorem dX8_addNumber_3 : decode cX8_addNumber 3 = .ok (.iload_n 2, 1) := by decide +kernel
theorem dX8_addNumber_4 : decode cX8_addNumber 4 = .ok (.ifCond .lt 32, 3) := by decide +kernel
theorem dX8_addNumber_7 : decode cX8_addNumber 7 = .ok (.aload_n 0, 1) := by decide +kernel
theorem dX8_addNumber_8 : decode cX8_addNumber 8 = .ok (.getfield 21, 3) := by decide +kernel
theorem dX8_addNumber_11 : decode cX8_addNumber 11 = .ok (.aload_n 0, 1) := by decide +kernel
theorem dX8_addNumber_12 : decode cX8_addNumber 12 = .ok (.getfield 48, 3) := by decide +kernel
theorem dX8_addNumber_15 : decode cX8_addNumber 15 = .ok (.iload_n 1, 1) := by decide +kernel
theorem dX8_addNumber_16 : decode cX8_addNumber 16 = .ok (.iload_n 2, 1) := by decide +kernel
theorem dX8_addNumber_17 : decode cX8_addNumber 17 = .ok (.ishr, 1) := by decide +kernel
theorem dX8_addNumber_18 : decode cX8_addNumber 18 = .ok (.i2b, 1) := by decide +kernel
theorem dX8_addNumber_19 : decode cX8_addNumber 19 = .ok (.bastore, 1) := by decide +kernel
theorem dX8_addNumber_20 : decode cX8_addNumber 20 = .ok (.aload_n 0, 1) := by decide +kernel
theorem dX8_addNumber_21 : decode cX8_addNumber 21 = .ok (.dup, 1) := by decide +kernel
theorem dX8_addNumber_22 : decode cX8_addNumber 22 = .ok (.getfield 48, 3) := by decide +kernel
theorem dX8_addNumber_25 : decode cX8_addNumber 25 = .ok (.iconst 1, 1) := by decide +kernel
theorem dX8_addNumber_26 : decode cX8_addNumber 26 = .ok (.iadd, 1) := by decide +kernel
theorem dX8_addNumber_27 : decode cX8_addNumber 27 = .ok (.putfield 48, 3) := by decide +kernel
theorem dX8_addNumber_30 : decode cX8_addNumber 30 = .ok (.iinc 2 (-8), 3) := by decide +kernel
theorem dX8_addNumber_33 : decode cX8_addNumber 33 = .ok (.goto (-30), 3) := by decide +kernel
theorem dX8_addNumber_36 : decode cX8_addNumber 36 = .ok (.return_, 1) := by decide +kernel
theorem dX8_begin_0 : decode cX8_begin 0 = .ok (.aload_n 0, 1) := by decide +kernel
theorem dX8_begin_1 : decode cX8_begin 1 = .ok (.iconst 0, 1) := by decide +kernel
theorem dX8_begin_2 : decode cX8_begin 2 = .ok (.putfield 29, 3) := by decide +kernel
theorem dX8_begin_5 : decode cX8_begin 5 = .ok (.aload_n 0, 1) := by decide +kernel
theorem dX8_begin_6 : decode cX8_begin 6 = .ok (.iconst 2, 1) := by decide +kernel
theorem dX8_begin_7 : decode cX8_begin 7 = .ok (.putfield 33, 3) := by decide +kernel
theorem dX8_begin_10 : decode cX8_begin 10 = .ok (.aload_n 0, 1) := by decide +kernel
theorem dX8_begin_11 : decode cX8_begin 11 = .ok (.iconst 0, 1) := by decide +kernel
theorem dX8_begin_12 : decode cX8_begin 12 = .ok (.putfield 36, 3) := by decide +kernel
theorem dX8_begin_15 : decode cX8_begin 15 = .ok (.aload_n 0, 1) := by decide +kernel
theorem dX8_begin_16 : decode cX8_begin 16 = .ok (.iconst 0, 1) := by decide +kernel
theorem dX8_begin_17 : decode cX8_begin 17 = .ok (.putfield 39, 3) := by decide +kernel
theorem dX8_begin_20 : decode cX8_begin 20 = .ok (.aload_n 0, 1) := by decide +kernel
theorem dX8_begin_21 : decode cX8_begin 21 = .ok (.iconst 0, 1) := by decide +kernel
theorem dX8_begin_22 : decode cX8_begin 22 = .ok (.putfield 42, 3) := by decide +kernel
theorem dX8_begin_25 : decode cX8_begin 25 = .ok (.aload_n 0, 1) := by decide +kernel
theorem dX8_begin_26 : decode cX8_begin 26 = .ok (.iconst 0, 1) := by decide +kernel
theorem dX8_begin_27 : decode cX8_begin 27 = .ok (.putfield 45, 3) := by decide +kernel
theorem dX8_begin_30 : decode cX8_begin 30 = .ok (.aload_n 0, 1) := by decide +kernel
theorem dX8_begin_31 : decode cX8_begin 31 = .ok (.iconst 0, 1) := by decide +kernel
theorem dX8_begin_32 : decode cX8_begin 32 = .ok (.putfield 48, 3) := by decide +kernel
theorem dX8_begin_35 : decode cX8_begin 35 = .ok (.aload_n 0, 1) := by decide +kernel
theorem dX8_begin_36 : decode cX8_begin 36 = .ok (.iconst (-1), 1) := by decide +kernel
theorem dX8_begin_37 : decode cX8_begin 37 = .ok (.putfield 51, 3) := by decide +kernel
theorem dX8_begin_40 : decode cX8_begin 40 = .ok (.iconst 0, 1) := by decide +kernel
theorem dX8_begin_41 : decode cX8_begin 41 = .ok (.istore_n 1, 1) := by decide +kernel
theorem dX8_begin_42 : decode cX8_begin 42 = .ok (.iload_n 1, 1) := by decide +kernel
theorem dX8_begin_43 : decode cX8_begin 43 = .ok (.bipush 8, 2) := by decide +kernel
theorem dX8_begin_45 : decode cX8_begin 45 = .ok (.if_icmp .ge 17, 3) := by decide +kernel
theorem dX8_begin_48 : decode cX8_begin 48 = .ok (.aload_n 0, 1) := by decide +kernel
theorem dX8_begin_49 : decode cX8_begin 49 = .ok (.getfield 9, 3) := by decide +kernel
theorem dX8_begin_52 : decode cX8_begin 52 = .ok (.iload_n 1, 1) := by decide +kernel
theorem dX8_begin_53 : decode cX8_begin 53 = .ok (.bipush 100, 2) := by decide +kernel
theorem dX8_begin_55 : decode cX8_begin 55 = .ok (.iastore, 1) := by decide +kernel
theorem dX8_begin_56 : decode cX8_begin 56 = .ok (.iinc 1 1, 3) := by decide +kernel
theorem dX8_begin_59 : decode cX8_begin 59 = .ok (.goto (-17), 3) := by decide +kernel
theorem dX8_begin_62 : decode cX8_begin 62 = .ok (.return_, 1) := by decide +kernel
theorem dX8_cashOfAll_0 : decode cX8_cashOfAll 0 = .ok (.iconst 0, 1) := by decide +kernel
theorem dX8_cashOfAll_1 : decode cX8_cashOfAll 1 = .ok (.istore_n 1, 1) := by decide +kernel
theorem dX8_cashOfAll_2 : decode cX8_cashOfAll 2 = .ok (.iconst 0, 1) := by decide +kernel
theorem dX8_cashOfAll_3 : decode cX8_cashOfAll 3 = .ok (.istore_n 2, 1) := by decide +kernel
theorem dX8_cashOfAll_4 : decode cX8_cashOfAll 4 = .ok (.iload_n 2, 1) := by decide +kernel
theorem dX8_cashOfAll_5 : decode cX8_cashOfAll 5 = .ok (.bipush 8, 2) := by decide +kernel
theorem dX8_cashOfAll_7 : decode cX8_cashOfAll 7 = .ok (.if_icmp .ge 18, 3) := by decide +kernel
theorem dX8_cashOfAll_10 : decode cX8_cashOfAll 10 = .ok (.iload_n 1, 1) := by decide +kernel
theorem dX8_cashOfAll_11 : decode cX8_cashOfAll 11 = .ok (.aload_n 0, 1) := by decide +kernel
theorem dX8_cashOfAll_12 : decode cX8_cashOfAll 12 = .ok (.getfield 9, 3) := by decide +kernel
theorem dX8_cashOfAll_15 : decode cX8_cashOfAll 15 = .ok (.iload_n 2, 1) := by decide +kernel
theorem dX8_cashOfAll_16 : decode cX8_cashOfAll 16 = .ok (.iaload, 1) := by decide +kernel
theorem dX8_cashOfAll_17 : decode cX8_cashOfAll 17 = .ok (.iadd, 1) := by decide +kernel
theorem dX8_cashOfAll_18 : decode cX8_cashOfAll 18 = .ok (.istore_n 1, 1) := by decide +kernel
theorem dX8_cashOfAll_19 : decode cX8_cashOfAll 19 = .ok (.iinc 2 1, 3) := by decide +kernel
theorem dX8_cashOfAll_22 : decode cX8_cashOfAll 22 = .ok (.goto (-18), 3) := by decide +kernel
theorem dX8_cashOfAll_25 : decode cX8_cashOfAll 25 = .ok (.iload_n 1, 1) := by decide +kernel
theorem dX8_cashOfAll_26 : decode cX8_cashOfAll 26 = .ok (.ireturn, 1) := by decide +kernel
theorem dX8_dishonouredBills_0 : decode cX8_dishonouredBills 0 = .ok (.iconst 0, 1) := by decide +kernel
theorem dX8_dishonouredBills_1 : decode cX8_dishonouredBills 1 = .ok (.istore_n 1, 1) := by decide +kernel
theorem dX8_dishonouredBills_2 : decode cX8_dishonouredBills 2 = .ok (.iconst 0, 1) := by decide +kernel
theorem dX8_dishonouredBills_3 : decode cX8_dishonouredBills 3 = .ok (.istore_n 2, 1) := by decide +kernel
theorem dX8_dishonouredBills_4 : decode cX8_dishonouredBills 4 = .ok (.iload_n 2, 1) := by decide +kernel
theorem dX8_dishonouredBills_5 : decode cX8_dishonouredBills 5 = .ok (.aload_n 0, 1) := by decide +kernel
theorem dX8_dishonouredBills_6 : decode cX8_dishonouredBills 6 = .ok (.getfield 36, 3) := by decide +kernel
theorem dX8_dishonouredBills_9 : decode cX8_dishonouredBills 9 = .ok (.if_icmp .ge 33, 3) := by decide +kernel
theorem dX8_dishonouredBills_42 : decode cX8_dishonouredBills 42 = .ok (.iload_n 1, 1) := by decide +kernel
theorem dX8_dishonouredBills_43 : decode cX8_dishonouredBills 43 = .ok (.ireturn, 1) := by decide +kernel
theorem dX8_doneBills_0 : decode cX8_doneBills 0 = .ok (.iconst 0, 1) := by decide +kernel
theorem dX8_doneBills_1 : decode cX8_doneBills 1 = .ok (.istore_n 1, 1) := by decide +kernel
theorem dX8_doneBills_2 : decode cX8_doneBills 2 = .ok (.iconst 0, 1) := by decide +kernel
theorem dX8_doneBills_3 : decode cX8_doneBills 3 = .ok (.istore_n 2, 1) := by decide +kernel
theorem dX8_doneBills_4 : decode cX8_doneBills 4 = .ok (.iload_n 2, 1) := by decide +kernel
theorem dX8_doneBills_5 : decode cX8_doneBills 5 = .ok (.aload_n 0, 1) := by decide +kernel
theorem dX8_doneBills_6 : decode cX8_doneBills 6 = .ok (.getfield 36, 3) := by decide +kernel
theorem dX8_doneBills_9 : decode cX8_doneBills 9 = .ok (.if_icmp .ge 24, 3) := by decide +kernel
theorem dX8_doneBills_33 : decode cX8_doneBills 33 = .ok (.iload_n 1, 1) := by decide +kernel
theorem dX8_doneBills_34 : decode cX8_doneBills 34 = .ok (.ireturn, 1) := by decide +kernel
