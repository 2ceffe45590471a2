theorem dX0_init_0 : decode cX0_init 0 = .ok (.aload_n 0, 1) := by decide +kernel
theorem dX0_init_1 : decode cX0_init 1 = .ok (.invokespecial 3, 3) := by decide +kernel
theorem dX0_init_4 : decode cX0_init 4 = .ok (.return_, 1) := by decide +kernel
theorem dX0_clear_0 : decode cX0_clear 0 = .ok (.aload_n 0, 1) := by decide +kernel
theorem dX0_clear_1 : decode cX0_clear 1 = .ok (.lconst 0, 1) := by decide +kernel
theorem dX0_clear_2 : decode cX0_clear 2 = .ok (.putfield 9, 3) := by decide +kernel
theorem dX0_clear_5 : decode cX0_clear 5 = .ok (.aload_n 0, 1) := by decide +kernel
theorem dX0_clear_6 : decode cX0_clear 6 = .ok (.lconst 0, 1) := by decide +kernel
theorem dX0_clear_7 : decode cX0_clear 7 = .ok (.putfield 15, 3) := by decide +kernel
theorem dX0_clear_10 : decode cX0_clear 10 = .ok (.return_, 1) := by decide +kernel
theorem dX0_put_0 : decode cX0_put 0 = .ok (.iload_n 1, 1) := by decide +kernel
theorem dX0_put_1 : decode cX0_put 1 = .ok (.bipush (-6), 2) := by decide +kernel
theorem dX0_put_3 : decode cX0_put 3 = .ok (.if_icmp .ne 7, 3) := by decide +kernel
theorem dX0_put_6 : decode cX0_put 6 = .ok (.iconst 0, 1) := by decide +kernel
theorem dX0_put_7 : decode cX0_put 7 = .ok (.goto 16, 3) := by decide +kernel
theorem dX0_put_10 : decode cX0_put 10 = .ok (.iload_n 1, 1) := by decide +kernel
theorem dX0_put_11 : decode cX0_put 11 = .ok (.bipush (-3), 2) := by decide +kernel
theorem dX0_put_13 : decode cX0_put 13 = .ok (.if_icmp .ne 7, 3) := by decide +kernel
theorem dX0_put_16 : decode cX0_put 16 = .ok (.iconst 1, 1) := by decide +kernel
theorem dX0_put_17 : decode cX0_put 17 = .ok (.goto 6, 3) := by decide +kernel
theorem dX0_put_20 : decode cX0_put 20 = .ok (.iload_n 1, 1) := by decide +kernel
theorem dX0_put_21 : decode cX0_put 21 = .ok (.iconst 2, 1) := by decide +kernel
theorem dX0_put_22 : decode cX0_put 22 = .ok (.iadd, 1) := by decide +kernel
theorem dX0_put_23 : decode cX0_put 23 = .ok (.istore_n 2, 1) := by decide +kernel
theorem dX0_put_24 : decode cX0_put 24 = .ok (.iload_n 2, 1) := by decide +kernel
theorem dX0_put_25 : decode cX0_put 25 = .ok (.bipush 64, 2) := by decide +kernel
theorem dX0_put_27 : decode cX0_put 27 = .ok (.if_icmp .ge 18, 3) := by decide +kernel
theorem dX0_put_30 : decode cX0_put 30 = .ok (.aload_n 0, 1) := by decide +kernel
theorem dX0_put_31 : decode cX0_put 31 = .ok (.dup, 1) := by decide +kernel
theorem dX0_put_32 : decode cX0_put 32 = .ok (.getfield 9, 3) := by decide +kernel
theorem dX0_put_35 : decode cX0_put 35 = .ok (.lconst 1, 1) := by decide +kernel
theorem dX0_put_36 : decode cX0_put 36 = .ok (.iload_n 2, 1) := by decide +kernel
theorem dX0_put_37 : decode cX0_put 37 = .ok (.lshl, 1) := by decide +kernel
theorem dX0_put_38 : decode cX0_put 38 = .ok (.lor, 1) := by decide +kernel
theorem dX0_put_39 : decode cX0_put 39 = .ok (.putfield 9, 3) := by decide +kernel
theorem dX0_put_42 : decode cX0_put 42 = .ok (.goto 18, 3) := by decide +kernel
theorem dX0_put_45 : decode cX0_put 45 = .ok (.aload_n 0, 1) := by decide +kernel
theorem dX0_put_46 : decode cX0_put 46 = .ok (.dup, 1) := by decide +kernel
theorem dX0_put_47 : decode cX0_put 47 = .ok (.getfield 15, 3) := by decide +kernel
theorem dX0_put_50 : decode cX0_put 50 = .ok (.lconst 1, 1) := by decide +kernel
theorem dX0_put_51 : decode cX0_put 51 = .ok (.iload_n 2, 1) := by decide +kernel
theorem dX0_put_52 : decode cX0_put 52 = .ok (.bipush 64, 2) := by decide +kernel
theorem dX0_put_54 : decode cX0_put 54 = .ok (.isub, 1) := by decide +kernel
theorem dX0_put_55 : decode cX0_put 55 = .ok (.lshl, 1) := by decide +kernel
theorem dX0_put_56 : decode cX0_put 56 = .ok (.lor, 1) := by decide +kernel
theorem dX0_put_57 : decode cX0_put 57 = .ok (.putfield 15, 3) := by decide +kernel
theorem dX0_put_60 : decode cX0_put 60 = .ok (.return_, 1) := by decide +kernel
theorem dX0_count_0 : decode cX0_count 0 = .ok (.aload_n 0, 1) := by decide +kernel
theorem dX0_count_1 : decode cX0_count 1 = .ok (.getfield 9, 3) := by decide +kernel
theorem dX0_count_4 : decode cX0_count 4 = .ok (.invokestatic 18, 3) := by decide +kernel
theorem dX0_count_7 : decode cX0_count 7 = .ok (.aload_n 0, 1) := by decide +kernel
theorem dX0_count_8 : decode cX0_count 8 = .ok (.getfield 15, 3) := by decide +kernel
theorem dX0_count_11 : decode cX0_count 11 = .ok (.invokestatic 18, 3) := by decide +kernel
theorem dX0_count_14 : decode cX0_count 14 = .ok (.iadd, 1) := by decide +kernel
theorem dX0_count_15 : decode cX0_count 15 = .ok (.ireturn, 1) := by decide +kernel
theorem dX1_init_0 : decode cX1_init 0 = .ok (.aload_n 0, 1) := by decide +kernel
theorem dX1_init_1 : decode cX1_init 1 = .ok (.invokespecial 3, 3) := by decide +kernel
theorem dX1_init_4 : decode cX1_init 4 = .ok (.aload_n 0, 1) := by decide +kernel
theorem dX1_init_5 : decode cX1_init 5 = .ok (.aload_n 1, 1) := by decide +kernel
theorem dX1_init_6 : decode cX1_init 6 = .ok (.putfield 9, 3) := by decide +kernel
theorem dX1_init_9 : decode cX1_init 9 = .ok (.aload_n 0, 1) := by decide +kernel
theorem dX1_init_10 : decode cX1_init 10 = .ok (.aload_n 2, 1) := by decide +kernel
theorem dX1_init_11 : decode cX1_init 11 = .ok (.putfield 15, 3) := by decide +kernel
theorem dX1_init_14 : decode cX1_init 14 = .ok (.return_, 1) := by decide +kernel
theorem dX1_begin_0 : decode cX1_begin 0 = .ok (.aload_n 0, 1) := by decide +kernel
theorem dX1_begin_1 : decode cX1_begin 1 = .ok (.iconst 0, 1) := by decide +kernel
theorem dX1_begin_2 : decode cX1_begin 2 = .ok (.putfield 19, 3) := by decide +kernel
theorem dX1_begin_5 : decode cX1_begin 5 = .ok (.aload_n 0, 1) := by decide +kernel
theorem dX1_begin_6 : decode cX1_begin 6 = .ok (.bipush (-6), 2) := by decide +kernel
theorem dX1_begin_8 : decode cX1_begin 8 = .ok (.putfield 23, 3) := by decide +kernel
theorem dX1_begin_11 : decode cX1_begin 11 = .ok (.aload_n 0, 1) := by decide +kernel
theorem dX1_begin_12 : decode cX1_begin 12 = .ok (.bipush (-6), 2) := by decide +kernel
theorem dX1_begin_14 : decode cX1_begin 14 = .ok (.putfield 26, 3) := by decide +kernel
theorem dX1_begin_17 : decode cX1_begin 17 = .ok (.aload_n 0, 1) := by decide +kernel
theorem dX1_begin_18 : decode cX1_begin 18 = .ok (.aload_n 1, 1) := by decide +kernel
theorem dX1_begin_19 : decode cX1_begin 19 = .ok (.getfield 29, 3) := by decide +kernel
theorem dX1_begin_22 : decode cX1_begin 22 = .ok (.putfield 34, 3) := by decide +kernel
theorem dX1_begin_25 : decode cX1_begin 25 = .ok (.aload_n 0, 1) := by decide +kernel
theorem dX1_begin_26 : decode cX1_begin 26 = .ok (.bipush (-6), 2) := by decide +kernel
theorem dX1_begin_28 : decode cX1_begin 28 = .ok (.putfield 37, 3) := by decide +kernel
theorem dX1_begin_31 : decode cX1_begin 31 = .ok (.return_, 1) := by decide +kernel
theorem dX1_goThrough_0 : decode cX1_goThrough 0 = .ok (.aload_n 0, 1) := by decide +kernel
theorem dX1_goThrough_1 : decode cX1_goThrough 1 = .ok (.aload_n 1, 1) := by decide +kernel
theorem dX1_goThrough_2 : decode cX1_goThrough 2 = .ok (.invokevirtual 40, 3) := by decide +kernel
theorem dX1_goThrough_5 : decode cX1_goThrough 5 = .ok (.aload_n 1, 1) := by decide +kernel
theorem dX1_goThrough_6 : decode cX1_goThrough 6 = .ok (.getfield 29, 3) := by decide +kernel
theorem dX1_goThrough_9 : decode cX1_goThrough 9 = .ok (.istore_n 3, 1) := by decide +kernel
theorem dX1_goThrough_10 : decode cX1_goThrough 10 = .ok (.iload_n 3, 1) := by decide +kernel
theorem dX1_goThrough_11 : decode cX1_goThrough 11 = .ok (.bipush 100, 2) := by decide +kernel
theorem dX1_goThrough_13 : decode cX1_goThrough 13 = .ok (.if_icmp .ge 29, 3) := by decide +kernel
theorem dX1_goThrough_16 : decode cX1_goThrough 16 = .ok (.aload_n 0, 1) := by decide +kernel
theorem dX1_goThrough_17 : decode cX1_goThrough 17 = .ok (.aload_n 1, 1) := by decide +kernel
theorem dX1_goThrough_18 : decode cX1_goThrough 18 = .ok (.iload_n 3, 1) := by decide +kernel
theorem dX1_goThrough_19 : decode cX1_goThrough 19 = .ok (.bipush (-6), 2) := by decide +kernel
theorem dX1_goThrough_21 : decode cX1_goThrough 21 = .ok (.invokevirtual 44, 3) := by decide +kernel
theorem dX1_goThrough_24 : decode cX1_goThrough 24 = .ok (.aload_n 0, 1) := by decide +kernel
theorem dX1_goThrough_25 : decode cX1_goThrough 25 = .ok (.getfield 19, 3) := by decide +kernel
theorem dX1_goThrough_28 : decode cX1_goThrough 28 = .ok (.iconst 1, 1) := by decide +kernel
theorem dX1_goThrough_29 : decode cX1_goThrough 29 = .ok (.isub, 1) := by decide +kernel
theorem dX1_goThrough_30 : decode cX1_goThrough 30 = .ok (.iload_n 2, 1) := by decide +kernel
theorem dX1_goThrough_31 : decode cX1_goThrough 31 = .ok (.if_icmp .ne 5, 3) := by decide +kernel
theorem dX1_goThrough_34 : decode cX1_goThrough 34 = .ok (.iconst 1, 1) := by decide +kernel
theorem dX1_goThrough_35 : decode cX1_goThrough 35 = .ok (.ireturn, 1) := by decide +kernel
theorem dX1_goThrough_36 : decode cX1_goThrough 36 = .ok (.iinc 3 1, 3) := by decide +kernel
theorem dX1_goThrough_39 : decode cX1_goThrough 39 = .ok (.goto (-29), 3) := by decide +kernel
theorem dX1_goThrough_42 : decode cX1_goThrough 42 = .ok (.iconst 0, 1) := by decide +kernel
theorem dX1_goThrough_43 : decode cX1_goThrough 43 = .ok (.ireturn, 1) := by decide +kernel
theorem dX1_goTill_0 : decode cX1_goTill 0 = .ok (.aload_n 0, 1) := by decide +kernel
theorem dX1_goTill_1 : decode cX1_goTill 1 = .ok (.aload_n 1, 1) := by decide +kernel
theorem dX1_goTill_2 : decode cX1_goTill 2 = .ok (.invokevirtual 40, 3) := by decide +kernel
theorem dX1_goTill_5 : decode cX1_goTill 5 = .ok (.aload_n 1, 1) := by decide +kernel
theorem dX1_goTill_6 : decode cX1_goTill 6 = .ok (.getfield 29, 3) := by decide +kernel
theorem dX1_goTill_9 : decode cX1_goTill 9 = .ok (.istore_n 3, 1) := by decide +kernel
theorem dX1_goTill_10 : decode cX1_goTill 10 = .ok (.iload_n 3, 1) := by decide +kernel
theorem dX1_goTill_11 : decode cX1_goTill 11 = .ok (.iload_n 2, 1) := by decide +kernel
theorem dX1_goTill_12 : decode cX1_goTill 12 = .ok (.if_icmp .gt 23, 3) := by decide +kernel
theorem dX1_goTill_15 : decode cX1_goTill 15 = .ok (.iload_n 3, 1) := by decide +kernel
theorem dX1_goTill_16 : decode cX1_goTill 16 = .ok (.bipush 100, 2) := by decide +kernel
theorem dX1_goTill_18 : decode cX1_goTill 18 = .ok (.if_icmp .ge 17, 3) := by decide +kernel
theorem dX1_goTill_21 : decode cX1_goTill 21 = .ok (.aload_n 0, 1) := by decide +kernel
theorem dX1_goTill_22 : decode cX1_goTill 22 = .ok (.aload_n 1, 1) := by decide +kernel
theorem dX1_goTill_23 : decode cX1_goTill 23 = .ok (.iload_n 3, 1) := by decide +kernel
theorem dX1_goTill_24 : decode cX1_goTill 24 = .ok (.bipush (-6), 2) := by decide +kernel
theorem dX1_goTill_26 : decode cX1_goTill 26 = .ok (.invokevirtual 44, 3) := by decide +kernel
theorem dX1_goTill_29 : decode cX1_goTill 29 = .ok (.iinc 3 1, 3) := by decide +kernel
theorem dX1_goTill_32 : decode cX1_goTill 32 = .ok (.goto (-22), 3) := by decide +kernel
theorem dX1_goTill_35 : decode cX1_goTill 35 = .ok (.return_, 1) := by decide +kernel
theorem dX1_wholeFrom_0 : decode cX1_wholeFrom 0 = .ok (.aload_n 0, 1) := by decide +kernel
theorem dX1_wholeFrom_1 : decode cX1_wholeFrom 1 = .ok (.aload_n 1, 1) := by decide +kernel
theorem dX1_wholeFrom_2 : decode cX1_wholeFrom 2 = .ok (.invokevirtual 40, 3) := by decide +kernel
theorem dX1_wholeFrom_5 : decode cX1_wholeFrom 5 = .ok (.aload_n 1, 1) := by decide +kernel
theorem dX1_wholeFrom_6 : decode cX1_wholeFrom 6 = .ok (.getfield 29, 3) := by decide +kernel
theorem dX1_wholeFrom_9 : decode cX1_wholeFrom 9 = .ok (.istore_n 3, 1) := by decide +kernel
theorem dX1_wholeFrom_10 : decode cX1_wholeFrom 10 = .ok (.iload_n 3, 1) := by decide +kernel
theorem dX1_wholeFrom_11 : decode cX1_wholeFrom 11 = .ok (.bipush 100, 2) := by decide +kernel
theorem dX1_wholeFrom_13 : decode cX1_wholeFrom 13 = .ok (.if_icmp .ge 35, 3) := by decide +kernel
theorem dX1_wholeFrom_16 : decode cX1_wholeFrom 16 = .ok (.aload_n 0, 1) := by decide +kernel
theorem dX1_wholeFrom_17 : decode cX1_wholeFrom 17 = .ok (.aload_n 1, 1) := by decide +kernel
theorem dX1_wholeFrom_18 : decode cX1_wholeFrom 18 = .ok (.iload_n 3, 1) := by decide +kernel
theorem dX1_wholeFrom_19 : decode cX1_wholeFrom 19 = .ok (.iload_n 2, 1) := by decide +kernel
theorem dX1_wholeFrom_20 : decode cX1_wholeFrom 20 = .ok (.invokevirtual 44, 3) := by decide +kernel
theorem dX1_wholeFrom_23 : decode cX1_wholeFrom 23 = .ok (.aload_n 0, 1) := by decide +kernel
theorem dX1_wholeFrom_24 : decode cX1_wholeFrom 24 = .ok (.getfield 37, 3) := by decide +kernel
theorem dX1_wholeFrom_27 : decode cX1_wholeFrom 27 = .ok (.bipush (-6), 2) := by decide +kernel
theorem dX1_wholeFrom_29 : decode cX1_wholeFrom 29 = .ok (.if_icmp .eq 13, 3) := by decide +kernel
theorem dX1_wholeFrom_32 : decode cX1_wholeFrom 32 = .ok (.iload_n 3, 1) := by decide +kernel
theorem dX1_wholeFrom_33 : decode cX1_wholeFrom 33 = .ok (.aload_n 0, 1) := by decide +kernel
theorem dX1_wholeFrom_34 : decode cX1_wholeFrom 34 = .ok (.getfield 37, 3) := by decide +kernel
theorem dX1_wholeFrom_37 : decode cX1_wholeFrom 37 = .ok (.if_icmp .lt 5, 3) := by decide +kernel
theorem dX1_wholeFrom_40 : decode cX1_wholeFrom 40 = .ok (.iload_n 3, 1) := by decide +kernel
theorem dX1_wholeFrom_41 : decode cX1_wholeFrom 41 = .ok (.ireturn, 1) := by decide +kernel
theorem dX1_wholeFrom_42 : decode cX1_wholeFrom 42 = .ok (.iinc 3 1, 3) := by decide +kernel
theorem dX1_wholeFrom_45 : decode cX1_wholeFrom 45 = .ok (.goto (-35), 3) := by decide +kernel
theorem dX1_wholeFrom_48 : decode cX1_wholeFrom 48 = .ok (.bipush (-6), 2) := by decide +kernel
theorem dX1_wholeFrom_50 : decode cX1_wholeFrom 50 = .ok (.ireturn, 1) := by decide +kernel
theorem dX1_goOn_0 : decode cX1_goOn 0 = .ok (.iload_n 2, 1) := by decide +kernel
theorem dX1_goOn_1 : decode cX1_goOn 1 = .ok (.aload_n 1, 1) := by decide +kernel
theorem dX1_goOn_2 : decode cX1_goOn 2 = .ok (.getfield 29, 3) := by decide +kernel
theorem dX1_goOn_5 : decode cX1_goOn 5 = .ok (.if_icmp .ne 7, 3) := by decide +kernel
theorem dX1_goOn_8 : decode cX1_goOn 8 = .ok (.iconst 1, 1) := by decide +kernel
theorem dX1_goOn_9 : decode cX1_goOn 9 = .ok (.goto 4, 3) := by decide +kernel
theorem dX1_goOn_12 : decode cX1_goOn 12 = .ok (.iconst 0, 1) := by decide +kernel
theorem dX1_goOn_13 : decode cX1_goOn 13 = .ok (.istore 4, 2) := by decide +kernel
theorem dX1_goOn_15 : decode cX1_goOn 15 = .ok (.iload 4, 2) := by decide +kernel
theorem dX1_goOn_17 : decode cX1_goOn 17 = .ok (.ifCond .ne 15, 3) := by decide +kernel
theorem dX1_goOn_20 : decode cX1_goOn 20 = .ok (.aload_n 0, 1) := by decide +kernel
theorem dX1_goOn_21 : decode cX1_goOn 21 = .ok (.getfield 9, 3) := by decide +kernel
theorem dX1_goOn_24 : decode cX1_goOn 24 = .ok (.iload_n 2, 1) := by decide +kernel
theorem dX1_goOn_25 : decode cX1_goOn 25 = .ok (.invokevirtual 48, 3) := by decide +kernel
theorem dX1_goOn_28 : decode cX1_goOn 28 = .ok (.ifCond .ne 4, 3) := by decide +kernel
theorem dX1_goOn_31 : decode cX1_goOn 31 = .ok (.return_, 1) := by decide +kernel
theorem dX1_goOn_32 : decode cX1_goOn 32 = .ok (.aload_n 0, 1) := by decide +kernel
theorem dX1_goOn_33 : decode cX1_goOn 33 = .ok (.getfield 15, 3) := by decide +kernel
theorem dX1_goOn_36 : decode cX1_goOn 36 = .ok (.aload_n 1, 1) := by decide +kernel
theorem dX1_goOn_37 : decode cX1_goOn 37 = .ok (.iload_n 2, 1) := by decide +kernel
theorem dX1_goOn_38 : decode cX1_goOn 38 = .ok (.invokevirtual 54, 3) := by decide +kernel
theorem dX1_goOn_41 : decode cX1_goOn 41 = .ok (.istore 5, 2) := by decide +kernel
theorem dX1_goOn_43 : decode cX1_goOn 43 = .ok (.iload 4, 2) := by decide +kernel
theorem dX1_goOn_45 : decode cX1_goOn 45 = .ok (.ifCond .ne 13, 3) := by decide +kernel
theorem dX1_goOn_48 : decode cX1_goOn 48 = .ok (.iload 5, 2) := by decide +kernel
theorem dX1_goOn_50 : decode cX1_goOn 50 = .ok (.aload_n 0, 1) := by decide +kernel
theorem dX1_goOn_51 : decode cX1_goOn 51 = .ok (.getfield 26, 3) := by decide +kernel
theorem dX1_goOn_54 : decode cX1_goOn 54 = .ok (.if_icmp .ne 4, 3) := by decide +kernel
theorem dX1_goOn_57 : decode cX1_goOn 57 = .ok (.return_, 1) := by decide +kernel
theorem dX1_goOn_58 : decode cX1_goOn 58 = .ok (.aload_n 0, 1) := by decide +kernel
theorem dX1_goOn_59 : decode cX1_goOn 59 = .ok (.dup, 1) := by decide +kernel
theorem dX1_goOn_60 : decode cX1_goOn 60 = .ok (.getfield 19, 3) := by decide +kernel
theorem dX1_goOn_63 : decode cX1_goOn 63 = .ok (.iconst 1, 1) := by decide +kernel
theorem dX1_goOn_64 : decode cX1_goOn 64 = .ok (.iadd, 1) := by decide +kernel
theorem dX1_goOn_65 : decode cX1_goOn 65 = .ok (.putfield 19, 3) := by decide +kernel
theorem dX1_goOn_68 : decode cX1_goOn 68 = .ok (.aload_n 0, 1) := by decide +kernel
theorem dX1_goOn_69 : decode cX1_goOn 69 = .ok (.iload_n 2, 1) := by decide +kernel
theorem dX1_goOn_70 : decode cX1_goOn 70 = .ok (.putfield 23, 3) := by decide +kernel
theorem dX1_goOn_73 : decode cX1_goOn 73 = .ok (.aload_n 0, 1) := by decide +kernel
theorem dX1_goOn_74 : decode cX1_goOn 74 = .ok (.iload 5, 2) := by decide +kernel
theorem dX1_goOn_76 : decode cX1_goOn 76 = .ok (.putfield 26, 3) := by decide +kernel
theorem dX1_goOn_79 : decode cX1_goOn 79 = .ok (.aload_n 0, 1) := by decide +kernel
theorem dX1_goOn_80 : decode cX1_goOn 80 = .ok (.getfield 9, 3) := by decide +kernel
theorem dX1_goOn_83 : decode cX1_goOn 83 = .ok (.iload 5, 2) := by decide +kernel
theorem dX1_goOn_85 : decode cX1_goOn 85 = .ok (.invokevirtual 59, 3) := by decide +kernel
theorem dX1_goOn_88 : decode cX1_goOn 88 = .ok (.ifCond .eq 21, 3) := by decide +kernel
theorem dX1_goOn_91 : decode cX1_goOn 91 = .ok (.aload_n 0, 1) := by decide +kernel
theorem dX1_goOn_92 : decode cX1_goOn 92 = .ok (.getfield 9, 3) := by decide +kernel
theorem dX1_goOn_95 : decode cX1_goOn 95 = .ok (.getfield 62, 3) := by decide +kernel
theorem dX1_goOn_98 : decode cX1_goOn 98 = .ok (.iload 5, 2) := by decide +kernel
theorem dX1_goOn_100 : decode cX1_goOn 100 = .ok (.aaload, 1) := by decide +kernel
theorem dX1_goOn_101 : decode cX1_goOn 101 = .ok (.getfield 66, 3) := by decide +kernel
theorem dX1_goOn_104 : decode cX1_goOn 104 = .ok (.bipush (-6), 2) := by decide +kernel
theorem dX1_goOn_106 : decode cX1_goOn 106 = .ok (.if_icmp .ne 10, 3) := by decide +kernel
theorem dX1_goOn_109 : decode cX1_goOn 109 = .ok (.aload_n 0, 1) := by decide +kernel
theorem dX1_goOn_110 : decode cX1_goOn 110 = .ok (.bipush (-6), 2) := by decide +kernel
theorem dX1_goOn_112 : decode cX1_goOn 112 = .ok (.putfield 37, 3) := by decide +kernel
theorem dX1_goOn_115 : decode cX1_goOn 115 = .ok (.return_, 1) := by decide +kernel
theorem dX1_goOn_116 : decode cX1_goOn 116 = .ok (.aload_n 0, 1) := by decide +kernel
theorem dX1_goOn_117 : decode cX1_goOn 117 = .ok (.getfield 9, 3) := by decide +kernel
theorem dX1_goOn_120 : decode cX1_goOn 120 = .ok (.getfield 62, 3) := by decide +kernel
theorem dX1_goOn_123 : decode cX1_goOn 123 = .ok (.iload 5, 2) := by decide +kernel
theorem dX1_goOn_125 : decode cX1_goOn 125 = .ok (.aaload, 1) := by decide +kernel
theorem dX1_goOn_126 : decode cX1_goOn 126 = .ok (.astore 6, 2) := by decide +kernel
theorem dX1_goOn_128 : decode cX1_goOn 128 = .ok (.aload_n 0, 1) := by decide +kernel
theorem dX1_goOn_129 : decode cX1_goOn 129 = .ok (.aload 6, 2) := by decide +kernel
theorem dX1_goOn_131 : decode cX1_goOn 131 = .ok (.getfield 66, 3) := by decide +kernel
theorem dX1_goOn_134 : decode cX1_goOn 134 = .ok (.iload_n 3, 1) := by decide +kernel
theorem dX1_goOn_135 : decode cX1_goOn 135 = .ok (.bipush (-6), 2) := by decide +kernel
theorem dX1_goOn_137 : decode cX1_goOn 137 = .ok (.if_icmp .ne 11, 3) := by decide +kernel
theorem dX1_goOn_140 : decode cX1_goOn 140 = .ok (.aload 6, 2) := by decide +kernel
theorem dX1_goOn_142 : decode cX1_goOn 142 = .ok (.getfield 71, 3) := by decide +kernel
theorem dX1_goOn_145 : decode cX1_goOn 145 = .ok (.goto 4, 3) := by decide +kernel
theorem dX1_goOn_148 : decode cX1_goOn 148 = .ok (.iload_n 3, 1) := by decide +kernel
theorem dX1_goOn_149 : decode cX1_goOn 149 = .ok (.iload_n 2, 1) := by decide +kernel
theorem dX1_goOn_150 : decode cX1_goOn 150 = .ok (.invokevirtual 74, 3) := by decide +kernel
theorem dX1_goOn_153 : decode cX1_goOn 153 = .ok (.return_, 1) := by decide +kernel
theorem dX1_carryTerm_0 : decode cX1_carryTerm 0 = .ok (.aload_n 0, 1) := by decide +kernel
theorem dX1_carryTerm_1 : decode cX1_carryTerm 1 = .ok (.getfield 37, 3) := by decide +kernel
theorem dX1_carryTerm_4 : decode cX1_carryTerm 4 = .ok (.bipush (-6), 2) := by decide +kernel
theorem dX1_carryTerm_6 : decode cX1_carryTerm 6 = .ok (.if_icmp .eq 9, 3) := by decide +kernel
theorem dX1_carryTerm_9 : decode cX1_carryTerm 9 = .ok (.iload_n 2, 1) := by decide +kernel
theorem dX1_carryTerm_10 : decode cX1_carryTerm 10 = .ok (.bipush 99, 2) := by decide +kernel
theorem dX1_carryTerm_12 : decode cX1_carryTerm 12 = .ok (.if_icmp .ne 16, 3) := by decide +kernel
theorem dX1_carryTerm_15 : decode cX1_carryTerm 15 = .ok (.aload_n 0, 1) := by decide +kernel
theorem dX1_carryTerm_16 : decode cX1_carryTerm 16 = .ok (.aload_n 0, 1) := by decide +kernel
theorem dX1_carryTerm_17 : decode cX1_carryTerm 17 = .ok (.getfield 34, 3) := by decide +kernel
theorem dX1_carryTerm_20 : decode cX1_carryTerm 20 = .ok (.iload_n 1, 1) := by decide +kernel
theorem dX1_carryTerm_21 : decode cX1_carryTerm 21 = .ok (.iadd, 1) := by decide +kernel
theorem dX1_carryTerm_22 : decode cX1_carryTerm 22 = .ok (.putfield 37, 3) := by decide +kernel
theorem dX1_carryTerm_25 : decode cX1_carryTerm 25 = .ok (.goto 38, 3) := by decide +kernel
theorem dX1_carryTerm_28 : decode cX1_carryTerm 28 = .ok (.iload_n 2, 1) := by decide +kernel
theorem dX1_carryTerm_29 : decode cX1_carryTerm 29 = .ok (.bipush 98, 2) := by decide +kernel
theorem dX1_carryTerm_31 : decode cX1_carryTerm 31 = .ok (.if_icmp .ne 18, 3) := by decide +kernel
theorem dX1_carryTerm_34 : decode cX1_carryTerm 34 = .ok (.aload_n 0, 1) := by decide +kernel
theorem dX1_carryTerm_35 : decode cX1_carryTerm 35 = .ok (.iload_n 3, 1) := by decide +kernel
theorem dX1_carryTerm_36 : decode cX1_carryTerm 36 = .ok (.putfield 34, 3) := by decide +kernel
theorem dX1_carryTerm_39 : decode cX1_carryTerm 39 = .ok (.aload_n 0, 1) := by decide +kernel
theorem dX1_carryTerm_40 : decode cX1_carryTerm 40 = .ok (.iload_n 3, 1) := by decide +kernel
theorem dX1_carryTerm_41 : decode cX1_carryTerm 41 = .ok (.iload_n 1, 1) := by decide +kernel
theorem dX1_carryTerm_42 : decode cX1_carryTerm 42 = .ok (.iadd, 1) := by decide +kernel
theorem dX1_carryTerm_43 : decode cX1_carryTerm 43 = .ok (.putfield 37, 3) := by decide +kernel
theorem dX1_carryTerm_46 : decode cX1_carryTerm 46 = .ok (.goto 17, 3) := by decide +kernel
theorem dX1_carryTerm_49 : decode cX1_carryTerm 49 = .ok (.aload_n 0, 1) := by decide +kernel
theorem dX1_carryTerm_50 : decode cX1_carryTerm 50 = .ok (.aload_n 0, 1) := by decide +kernel
theorem dX1_carryTerm_51 : decode cX1_carryTerm 51 = .ok (.getfield 37, 3) := by decide +kernel
theorem dX1_carryTerm_54 : decode cX1_carryTerm 54 = .ok (.iload_n 3, 1) := by decide +kernel
theorem dX1_carryTerm_55 : decode cX1_carryTerm 55 = .ok (.iload_n 1, 1) := by decide +kernel
theorem dX1_carryTerm_56 : decode cX1_carryTerm 56 = .ok (.iadd, 1) := by decide +kernel
theorem dX1_carryTerm_57 : decode cX1_carryTerm 57 = .ok (.invokestatic 78, 3) := by decide +kernel
theorem dX1_carryTerm_60 : decode cX1_carryTerm 60 = .ok (.putfield 37, 3) := by decide +kernel
theorem dX1_carryTerm_63 : decode cX1_carryTerm 63 = .ok (.return_, 1) := by decide +kernel
theorem dX2_init_0 : decode cX2_init 0 = .ok (.aload_n 0, 1) := by decide +kernel
theorem dX2_init_1 : decode cX2_init 1 = .ok (.invokespecial 3, 3) := by decide +kernel
theorem dX2_init_4 : decode cX2_init 4 = .ok (.aload_n 0, 1) := by decide +kernel
theorem dX2_init_5 : decode cX2_init 5 = .ok (.aload_n 1, 1) := by decide +kernel
theorem dX2_init_6 : decode cX2_init 6 = .ok (.putfield 9, 3) := by decide +kernel
theorem dX2_init_9 : decode cX2_init 9 = .ok (.aload_n 0, 1) := by decide +kernel
theorem dX2_init_10 : decode cX2_init 10 = .ok (.bipush 8, 2) := by decide +kernel
theorem dX2_init_12 : decode cX2_init 12 = .ok (.newarray .int, 2) := by decide +kernel
theorem dX2_init_14 : decode cX2_init 14 = .ok (.putfield 15, 3) := by decide +kernel
theorem dX2_init_17 : decode cX2_init 17 = .ok (.return_, 1) := by decide +kernel
theorem dX2_obstacle_0 : decode cX2_obstacle 0 = .ok (.aload_n 0, 1) := by decide +kernel
theorem dX2_obstacle_1 : decode cX2_obstacle 1 = .ok (.getfield 9, 3) := by decide +kernel
theorem dX2_obstacle_4 : decode cX2_obstacle 4 = .ok (.iload_n 1, 1) := by decide +kernel
theorem dX2_obstacle_5 : decode cX2_obstacle 5 = .ok (.invokevirtual 19, 3) := by decide +kernel
theorem dX2_obstacle_8 : decode cX2_obstacle 8 = .ok (.ifCond .ne 5, 3) := by decide +kernel
theorem dX2_obstacle_11 : decode cX2_obstacle 11 = .ok (.iconst 1, 1) := by decide +kernel
theorem dX2_obstacle_12 : decode cX2_obstacle 12 = .ok (.ireturn, 1) := by decide +kernel
theorem dX2_obstacle_13 : decode cX2_obstacle 13 = .ok (.aload_n 0, 1) := by decide +kernel
theorem dX2_obstacle_14 : decode cX2_obstacle 14 = .ok (.getfield 9, 3) := by decide +kernel
theorem dX2_obstacle_17 : decode cX2_obstacle 17 = .ok (.getfield 25, 3) := by decide +kernel
theorem dX2_obstacle_20 : decode cX2_obstacle 20 = .ok (.iload_n 1, 1) := by decide +kernel
theorem dX2_obstacle_21 : decode cX2_obstacle 21 = .ok (.aaload, 1) := by decide +kernel
theorem dX2_obstacle_22 : decode cX2_obstacle 22 = .ok (.astore 5, 2) := by decide +kernel
theorem dX2_obstacle_24 : decode cX2_obstacle 24 = .ok (.aload 5, 2) := by decide +kernel
theorem dX2_obstacle_26 : decode cX2_obstacle 26 = .ok (.iload_n 3, 1) := by decide +kernel
theorem dX2_obstacle_27 : decode cX2_obstacle 27 = .ok (.invokevirtual 29, 3) := by decide +kernel
theorem dX2_obstacle_30 : decode cX2_obstacle 30 = .ok (.ifCond .ne 5, 3) := by decide +kernel
theorem dX2_obstacle_33 : decode cX2_obstacle 33 = .ok (.iconst 1, 1) := by decide +kernel
theorem dX2_obstacle_34 : decode cX2_obstacle 34 = .ok (.ireturn, 1) := by decide +kernel
theorem dX2_obstacle_35 : decode cX2_obstacle 35 = .ok (.iload 4, 2) := by decide +kernel
theorem dX2_obstacle_37 : decode cX2_obstacle 37 = .ok (.iload_n 1, 1) := by decide +kernel
theorem dX2_obstacle_38 : decode cX2_obstacle 38 = .ok (.ishr, 1) := by decide +kernel
theorem dX2_obstacle_39 : decode cX2_obstacle 39 = .ok (.iconst 1, 1) := by decide +kernel
theorem dX2_obstacle_40 : decode cX2_obstacle 40 = .ok (.iand, 1) := by decide +kernel
theorem dX2_obstacle_41 : decode cX2_obstacle 41 = .ok (.ifCond .eq 5, 3) := by decide +kernel
theorem dX2_obstacle_44 : decode cX2_obstacle 44 = .ok (.iconst 2, 1) := by decide +kernel
theorem dX2_obstacle_45 : decode cX2_obstacle 45 = .ok (.ireturn, 1) := by decide +kernel
theorem dX2_obstacle_46 : decode cX2_obstacle 46 = .ok (.iload_n 3, 1) := by decide +kernel
theorem dX2_obstacle_47 : decode cX2_obstacle 47 = .ok (.aload_n 2, 1) := by decide +kernel
theorem dX2_obstacle_48 : decode cX2_obstacle 48 = .ok (.getfield 34, 3) := by decide +kernel
theorem dX2_obstacle_51 : decode cX2_obstacle 51 = .ok (.if_icmp .ge 5, 3) := by decide +kernel
theorem dX2_obstacle_54 : decode cX2_obstacle 54 = .ok (.iconst 3, 1) := by decide +kernel
theorem dX2_obstacle_55 : decode cX2_obstacle 55 = .ok (.ireturn, 1) := by decide +kernel
theorem dX2_obstacle_56 : decode cX2_obstacle 56 = .ok (.aload 5, 2) := by decide +kernel
theorem dX2_obstacle_58 : decode cX2_obstacle 58 = .ok (.aload_n 2, 1) := by decide +kernel
theorem dX2_obstacle_59 : decode cX2_obstacle 59 = .ok (.getfield 40, 3) := by decide +kernel
theorem dX2_obstacle_62 : decode cX2_obstacle 62 = .ok (.invokevirtual 43, 3) := by decide +kernel
theorem dX2_obstacle_65 : decode cX2_obstacle 65 = .ok (.bipush (-6), 2) := by decide +kernel
theorem dX2_obstacle_67 : decode cX2_obstacle 67 = .ok (.if_icmp .ne 5, 3) := by decide +kernel
theorem dX2_obstacle_70 : decode cX2_obstacle 70 = .ok (.iconst 4, 1) := by decide +kernel
theorem dX2_obstacle_71 : decode cX2_obstacle 71 = .ok (.ireturn, 1) := by decide +kernel
theorem dX2_obstacle_72 : decode cX2_obstacle 72 = .ok (.aload 5, 2) := by decide +kernel
theorem dX2_obstacle_74 : decode cX2_obstacle 74 = .ok (.aload_n 2, 1) := by decide +kernel
theorem dX2_obstacle_75 : decode cX2_obstacle 75 = .ok (.invokevirtual 47, 3) := by decide +kernel
theorem dX2_obstacle_78 : decode cX2_obstacle 78 = .ok (.ifCond .eq 7, 3) := by decide +kernel
theorem dX2_obstacle_81 : decode cX2_obstacle 81 = .ok (.iconst 0, 1) := by decide +kernel
theorem dX2_obstacle_82 : decode cX2_obstacle 82 = .ok (.goto 4, 3) := by decide +kernel
theorem dX2_obstacle_85 : decode cX2_obstacle 85 = .ok (.iconst 5, 1) := by decide +kernel
theorem dX2_obstacle_86 : decode cX2_obstacle 86 = .ok (.ireturn, 1) := by decide +kernel
theorem dX2_governor_0 : decode cX2_governor 0 = .ok (.aload_n 0, 1) := by decide +kernel
theorem dX2_governor_1 : decode cX2_governor 1 = .ok (.iconst 0, 1) := by decide +kernel
theorem dX2_governor_2 : decode cX2_governor 2 = .ok (.putfield 51, 3) := by decide +kernel
theorem dX2_governor_5 : decode cX2_governor 5 = .ok (.iload_n 2, 1) := by decide +kernel
theorem dX2_governor_6 : decode cX2_governor 6 = .ok (.aload_n 1, 1) := by decide +kernel
theorem dX2_governor_7 : decode cX2_governor 7 = .ok (.getfield 34, 3) := by decide +kernel
theorem dX2_governor_10 : decode cX2_governor 10 = .ok (.if_icmp .ge 6, 3) := by decide +kernel
theorem dX2_governor_13 : decode cX2_governor 13 = .ok (.bipush (-6), 2) := by decide +kernel
theorem dX2_governor_15 : decode cX2_governor 15 = .ok (.ireturn, 1) := by decide +kernel
theorem dX2_governor_16 : decode cX2_governor 16 = .ok (.aload_n 0, 1) := by decide +kernel
theorem dX2_governor_17 : decode cX2_governor 17 = .ok (.getfield 9, 3) := by decide +kernel
theorem dX2_governor_20 : decode cX2_governor 20 = .ok (.iload_n 2, 1) := by decide +kernel
theorem dX2_governor_21 : decode cX2_governor 21 = .ok (.invokevirtual 55, 3) := by decide +kernel
theorem dX2_governor_24 : decode cX2_governor 24 = .ok (.istore_n 3, 1) := by decide +kernel
theorem dX2_governor_25 : decode cX2_governor 25 = .ok (.aload_n 0, 1) := by decide +kernel
theorem dX2_governor_26 : decode cX2_governor 26 = .ok (.aload_n 1, 1) := by decide +kernel
theorem dX2_governor_27 : decode cX2_governor 27 = .ok (.iload_n 2, 1) := by decide +kernel
theorem dX2_governor_28 : decode cX2_governor 28 = .ok (.iload_n 3, 1) := by decide +kernel
theorem dX2_governor_29 : decode cX2_governor 29 = .ok (.iconst 0, 1) := by decide +kernel
theorem dX2_governor_30 : decode cX2_governor 30 = .ok (.invokevirtual 58, 3) := by decide +kernel
theorem dX2_governor_33 : decode cX2_governor 33 = .ok (.istore 4, 2) := by decide +kernel
theorem dX2_governor_35 : decode cX2_governor 35 = .ok (.iload 4, 2) := by decide +kernel
theorem dX2_governor_37 : decode cX2_governor 37 = .ok (.bipush (-6), 2) := by decide +kernel
theorem dX2_governor_39 : decode cX2_governor 39 = .ok (.if_icmp .ne 27, 3) := by decide +kernel
theorem dX2_governor_42 : decode cX2_governor 42 = .ok (.aload_n 0, 1) := by decide +kernel
theorem dX2_governor_43 : decode cX2_governor 43 = .ok (.getfield 9, 3) := by decide +kernel
theorem dX2_governor_46 : decode cX2_governor 46 = .ok (.getfield 62, 3) := by decide +kernel
theorem dX2_governor_49 : decode cX2_governor 49 = .ok (.iconst 1, 1) := by decide +kernel
theorem dX2_governor_50 : decode cX2_governor 50 = .ok (.if_icmp .ne 16, 3) := by decide +kernel
theorem dX2_governor_53 : decode cX2_governor 53 = .ok (.aload_n 0, 1) := by decide +kernel
theorem dX2_governor_54 : decode cX2_governor 54 = .ok (.aload_n 1, 1) := by decide +kernel
theorem dX2_governor_55 : decode cX2_governor 55 = .ok (.aload_n 1, 1) := by decide +kernel
theorem dX2_governor_56 : decode cX2_governor 56 = .ok (.getfield 34, 3) := by decide +kernel
theorem dX2_governor_59 : decode cX2_governor 59 = .ok (.iload_n 3, 1) := by decide +kernel
theorem dX2_governor_60 : decode cX2_governor 60 = .ok (.iconst 5, 1) := by decide +kernel
theorem dX2_governor_61 : decode cX2_governor 61 = .ok (.invokevirtual 58, 3) := by decide +kernel
theorem dX2_governor_64 : decode cX2_governor 64 = .ok (.istore 4, 2) := by decide +kernel
theorem dX2_governor_66 : decode cX2_governor 66 = .ok (.iload 4, 2) := by decide +kernel
theorem dX2_governor_68 : decode cX2_governor 68 = .ok (.ireturn, 1) := by decide +kernel
theorem dX2_choose_0 : decode cX2_choose 0 = .ok (.bipush (-6), 2) := by decide +kernel
theorem dX2_choose_2 : decode cX2_choose 2 = .ok (.istore 5, 2) := by decide +kernel
theorem dX2_choose_4 : decode cX2_choose 4 = .ok (.iconst 0, 1) := by decide +kernel
theorem dX2_choose_5 : decode cX2_choose 5 = .ok (.istore 6, 2) := by decide +kernel
theorem dX2_choose_7 : decode cX2_choose 7 = .ok (.iload 6, 2) := by decide +kernel
theorem dX2_choose_9 : decode cX2_choose 9 = .ok (.aload_n 0, 1) := by decide +kernel
theorem dX2_choose_10 : decode cX2_choose 10 = .ok (.getfield 9, 3) := by decide +kernel
theorem dX2_choose_13 : decode cX2_choose 13 = .ok (.getfield 65, 3) := by decide +kernel
theorem dX2_choose_16 : decode cX2_choose 16 = .ok (.if_icmp .ge 104, 3) := by decide +kernel
theorem dX2_choose_19 : decode cX2_choose 19 = .ok (.aload_n 0, 1) := by decide +kernel
theorem dX2_choose_20 : decode cX2_choose 20 = .ok (.iload 6, 2) := by decide +kernel
theorem dX2_choose_22 : decode cX2_choose 22 = .ok (.aload_n 1, 1) := by decide +kernel
theorem dX2_choose_23 : decode cX2_choose 23 = .ok (.iload_n 2, 1) := by decide +kernel
theorem dX2_choose_24 : decode cX2_choose 24 = .ok (.iload_n 3, 1) := by decide +kernel
theorem dX2_choose_25 : decode cX2_choose 25 = .ok (.invokevirtual 68, 3) := by decide +kernel
theorem dX2_choose_28 : decode cX2_choose 28 = .ok (.istore 7, 2) := by decide +kernel
theorem dX2_choose_30 : decode cX2_choose 30 = .ok (.iload 7, 2) := by decide +kernel
theorem dX2_choose_32 : decode cX2_choose 32 = .ok (.ifCond .eq 13, 3) := by decide +kernel
theorem dX2_choose_35 : decode cX2_choose 35 = .ok (.iload 7, 2) := by decide +kernel
theorem dX2_choose_37 : decode cX2_choose 37 = .ok (.iload 4, 2) := by decide +kernel
theorem dX2_choose_39 : decode cX2_choose 39 = .ok (.if_icmp .eq 6, 3) := by decide +kernel
theorem dX2_choose_42 : decode cX2_choose 42 = .ok (.goto 72, 3) := by decide +kernel
theorem dX2_choose_45 : decode cX2_choose 45 = .ok (.iload 5, 2) := by decide +kernel
theorem dX2_choose_47 : decode cX2_choose 47 = .ok (.bipush (-6), 2) := by decide +kernel
theorem dX2_choose_49 : decode cX2_choose 49 = .ok (.if_icmp .ne 7, 3) := by decide +kernel
theorem dX2_choose_52 : decode cX2_choose 52 = .ok (.iconst 1, 1) := by decide +kernel
theorem dX2_choose_53 : decode cX2_choose 53 = .ok (.goto 31, 3) := by decide +kernel
theorem dX2_choose_56 : decode cX2_choose 56 = .ok (.aload_n 0, 1) := by decide +kernel
theorem dX2_choose_57 : decode cX2_choose 57 = .ok (.aload_n 0, 1) := by decide +kernel
theorem dX2_choose_58 : decode cX2_choose 58 = .ok (.getfield 9, 3) := by decide +kernel
theorem dX2_choose_61 : decode cX2_choose 61 = .ok (.getfield 25, 3) := by decide +kernel
theorem dX2_choose_64 : decode cX2_choose 64 = .ok (.iload 6, 2) := by decide +kernel
theorem dX2_choose_66 : decode cX2_choose 66 = .ok (.aaload, 1) := by decide +kernel
theorem dX2_choose_67 : decode cX2_choose 67 = .ok (.aload_n 0, 1) := by decide +kernel
theorem dX2_choose_68 : decode cX2_choose 68 = .ok (.getfield 9, 3) := by decide +kernel
theorem dX2_choose_71 : decode cX2_choose 71 = .ok (.getfield 25, 3) := by decide +kernel
theorem dX2_choose_74 : decode cX2_choose 74 = .ok (.iload 5, 2) := by decide +kernel
theorem dX2_choose_76 : decode cX2_choose 76 = .ok (.aaload, 1) := by decide +kernel
theorem dX2_choose_77 : decode cX2_choose 77 = .ok (.aload_n 1, 1) := by decide +kernel
theorem dX2_choose_78 : decode cX2_choose 78 = .ok (.getfield 40, 3) := by decide +kernel
theorem dX2_choose_81 : decode cX2_choose 81 = .ok (.invokevirtual 72, 3) := by decide +kernel
theorem dX2_choose_84 : decode cX2_choose 84 = .ok (.istore 8, 2) := by decide +kernel
theorem dX2_choose_86 : decode cX2_choose 86 = .ok (.iload 8, 2) := by decide +kernel
theorem dX2_choose_88 : decode cX2_choose 88 = .ok (.ifCond .le 7, 3) := by decide +kernel
theorem dX2_choose_91 : decode cX2_choose 91 = .ok (.iload 6, 2) := by decide +kernel
theorem dX2_choose_93 : decode cX2_choose 93 = .ok (.istore 5, 2) := by decide +kernel
theorem dX2_choose_95 : decode cX2_choose 95 = .ok (.iload 8, 2) := by decide +kernel
theorem dX2_choose_97 : decode cX2_choose 97 = .ok (.ifCond .lt 17, 3) := by decide +kernel
theorem dX2_choose_100 : decode cX2_choose 100 = .ok (.aload_n 0, 1) := by decide +kernel
theorem dX2_choose_101 : decode cX2_choose 101 = .ok (.iload 8, 2) := by decide +kernel
theorem dX2_choose_103 : decode cX2_choose 103 = .ok (.ifCond .ne 7, 3) := by decide +kernel
theorem dX2_choose_106 : decode cX2_choose 106 = .ok (.iconst 1, 1) := by decide +kernel
theorem dX2_choose_107 : decode cX2_choose 107 = .ok (.goto 4, 3) := by decide +kernel
theorem dX2_choose_110 : decode cX2_choose 110 = .ok (.iconst 0, 1) := by decide +kernel
theorem dX2_choose_111 : decode cX2_choose 111 = .ok (.putfield 51, 3) := by decide +kernel
theorem dX2_choose_114 : decode cX2_choose 114 = .ok (.iinc 6 1, 3) := by decide +kernel
theorem dX2_choose_117 : decode cX2_choose 117 = .ok (.goto (-110), 3) := by decide +kernel
theorem dX2_choose_120 : decode cX2_choose 120 = .ok (.iload 5, 2) := by decide +kernel
theorem dX2_choose_122 : decode cX2_choose 122 = .ok (.ireturn, 1) := by decide +kernel
theorem dX2_compare_0 : decode cX2_compare 0 = .ok (.aload_n 1, 1) := by decide +kernel
theorem dX2_compare_1 : decode cX2_compare 1 = .ok (.getfield 76, 3) := by decide +kernel
theorem dX2_compare_4 : decode cX2_compare 4 = .ok (.aload_n 2, 1) := by decide +kernel
theorem dX2_compare_5 : decode cX2_compare 5 = .ok (.getfield 76, 3) := by decide +kernel
theorem dX2_compare_8 : decode cX2_compare 8 = .ok (.isub, 1) := by decide +kernel
theorem dX2_compare_9 : decode cX2_compare 9 = .ok (.istore 4, 2) := by decide +kernel
theorem dX2_compare_11 : decode cX2_compare 11 = .ok (.aload_n 1, 1) := by decide +kernel
theorem dX2_compare_12 : decode cX2_compare 12 = .ok (.iload_n 3, 1) := by decide +kernel
theorem dX2_compare_13 : decode cX2_compare 13 = .ok (.invokevirtual 79, 3) := by decide +kernel
theorem dX2_compare_16 : decode cX2_compare 16 = .ok (.aload_n 2, 1) := by decide +kernel
theorem dX2_compare_17 : decode cX2_compare 17 = .ok (.iload_n 3, 1) := by decide +kernel
theorem dX2_compare_18 : decode cX2_compare 18 = .ok (.invokevirtual 79, 3) := by decide +kernel
theorem dX2_compare_21 : decode cX2_compare 21 = .ok (.isub, 1) := by decide +kernel
theorem dX2_compare_22 : decode cX2_compare 22 = .ok (.istore 5, 2) := by decide +kernel
theorem dX2_compare_24 : decode cX2_compare 24 = .ok (.aload_n 0, 1) := by decide +kernel
theorem dX2_compare_25 : decode cX2_compare 25 = .ok (.getfield 9, 3) := by decide +kernel
theorem dX2_compare_28 : decode cX2_compare 28 = .ok (.getfield 82, 3) := by decide +kernel
theorem dX2_compare_31 : decode cX2_compare 31 = .ok (.ifCond .ne 16, 3) := by decide +kernel
theorem dX2_compare_34 : decode cX2_compare 34 = .ok (.iload 4, 2) := by decide +kernel
theorem dX2_compare_36 : decode cX2_compare 36 = .ok (.ifCond .eq 8, 3) := by decide +kernel
theorem dX2_compare_39 : decode cX2_compare 39 = .ok (.iload 4, 2) := by decide +kernel
theorem dX2_compare_41 : decode cX2_compare 41 = .ok (.goto 5, 3) := by decide +kernel
theorem dX2_compare_44 : decode cX2_compare 44 = .ok (.iload 5, 2) := by decide +kernel
theorem dX2_compare_46 : decode cX2_compare 46 = .ok (.ireturn, 1) := by decide +kernel
theorem dX2_compare_47 : decode cX2_compare 47 = .ok (.iload 5, 2) := by decide +kernel
theorem dX2_compare_49 : decode cX2_compare 49 = .ok (.ifCond .eq 8, 3) := by decide +kernel
theorem dX2_compare_52 : decode cX2_compare 52 = .ok (.iload 5, 2) := by decide +kernel
theorem dX2_compare_54 : decode cX2_compare 54 = .ok (.goto 5, 3) := by decide +kernel
theorem dX2_compare_57 : decode cX2_compare 57 = .ok (.iload 4, 2) := by decide +kernel
theorem dX2_compare_59 : decode cX2_compare 59 = .ok (.ireturn, 1) := by decide +kernel
theorem dX2_follow_0 : decode cX2_follow 0 = .ok (.aload_n 0, 1) := by decide +kernel
theorem dX2_follow_1 : decode cX2_follow 1 = .ok (.getfield 9, 3) := by decide +kernel
theorem dX2_follow_4 : decode cX2_follow 4 = .ok (.iload_n 3, 1) := by decide +kernel
theorem dX2_follow_5 : decode cX2_follow 5 = .ok (.invokevirtual 55, 3) := by decide +kernel
theorem dX2_follow_8 : decode cX2_follow 8 = .ok (.istore 4, 2) := by decide +kernel
theorem dX2_follow_10 : decode cX2_follow 10 = .ok (.iconst 0, 1) := by decide +kernel
theorem dX2_follow_11 : decode cX2_follow 11 = .ok (.istore 5, 2) := by decide +kernel
theorem dX2_follow_13 : decode cX2_follow 13 = .ok (.iload_n 2, 1) := by decide +kernel
theorem dX2_follow_14 : decode cX2_follow 14 = .ok (.istore 6, 2) := by decide +kernel
theorem dX2_follow_16 : decode cX2_follow 16 = .ok (.aload_n 0, 1) := by decide +kernel
theorem dX2_follow_17 : decode cX2_follow 17 = .ok (.iconst 0, 1) := by decide +kernel
theorem dX2_follow_18 : decode cX2_follow 18 = .ok (.putfield 85, 3) := by decide +kernel
theorem dX2_follow_21 : decode cX2_follow 21 = .ok (.iconst 0, 1) := by decide +kernel
theorem dX2_follow_22 : decode cX2_follow 22 = .ok (.istore 7, 2) := by decide +kernel
theorem dX2_follow_24 : decode cX2_follow 24 = .ok (.iload 7, 2) := by decide +kernel
theorem dX2_follow_26 : decode cX2_follow 26 = .ok (.bipush 8, 2) := by decide +kernel
theorem dX2_follow_28 : decode cX2_follow 28 = .ok (.if_icmp .gt 135, 3) := by decide +kernel
theorem dX2_follow_31 : decode cX2_follow 31 = .ok (.aload_n 0, 1) := by decide +kernel
theorem dX2_follow_32 : decode cX2_follow 32 = .ok (.getfield 9, 3) := by decide +kernel
theorem dX2_follow_35 : decode cX2_follow 35 = .ok (.iload 6, 2) := by decide +kernel
theorem dX2_follow_37 : decode cX2_follow 37 = .ok (.invokevirtual 19, 3) := by decide +kernel
theorem dX2_follow_40 : decode cX2_follow 40 = .ok (.ifCond .eq 13, 3) := by decide +kernel
theorem dX2_follow_43 : decode cX2_follow 43 = .ok (.iload 4, 2) := by decide +kernel
theorem dX2_follow_45 : decode cX2_follow 45 = .ok (.iload 6, 2) := by decide +kernel
theorem dX2_follow_47 : decode cX2_follow 47 = .ok (.ishr, 1) := by decide +kernel
theorem dX2_follow_48 : decode cX2_follow 48 = .ok (.iconst 1, 1) := by decide +kernel
theorem dX2_follow_49 : decode cX2_follow 49 = .ok (.iand, 1) := by decide +kernel
theorem dX2_follow_50 : decode cX2_follow 50 = .ok (.ifCond .eq 6, 3) := by decide +kernel
theorem dX2_follow_53 : decode cX2_follow 53 = .ok (.bipush (-6), 2) := by decide +kernel
theorem dX2_follow_55 : decode cX2_follow 55 = .ok (.ireturn, 1) := by decide +kernel
theorem dX2_follow_56 : decode cX2_follow 56 = .ok (.aload_n 0, 1) := by decide +kernel
theorem dX2_follow_57 : decode cX2_follow 57 = .ok (.getfield 9, 3) := by decide +kernel
theorem dX2_follow_60 : decode cX2_follow 60 = .ok (.getfield 25, 3) := by decide +kernel
theorem dX2_follow_63 : decode cX2_follow 63 = .ok (.iload 6, 2) := by decide +kernel
theorem dX2_follow_65 : decode cX2_follow 65 = .ok (.aaload, 1) := by decide +kernel
theorem dX2_follow_66 : decode cX2_follow 66 = .ok (.aload_n 1, 1) := by decide +kernel
theorem dX2_follow_67 : decode cX2_follow 67 = .ok (.getfield 40, 3) := by decide +kernel
theorem dX2_follow_70 : decode cX2_follow 70 = .ok (.invokevirtual 43, 3) := by decide +kernel
theorem dX2_follow_73 : decode cX2_follow 73 = .ok (.istore 8, 2) := by decide +kernel
theorem dX2_follow_75 : decode cX2_follow 75 = .ok (.iload 8, 2) := by decide +kernel
theorem dX2_follow_77 : decode cX2_follow 77 = .ok (.bipush (-6), 2) := by decide +kernel
theorem dX2_follow_79 : decode cX2_follow 79 = .ok (.if_icmp .ne 6, 3) := by decide +kernel
theorem dX2_follow_82 : decode cX2_follow 82 = .ok (.bipush (-6), 2) := by decide +kernel
theorem dX2_follow_84 : decode cX2_follow 84 = .ok (.ireturn, 1) := by decide +kernel
theorem dX2_follow_85 : decode cX2_follow 85 = .ok (.iload 5, 2) := by decide +kernel
theorem dX2_follow_87 : decode cX2_follow 87 = .ok (.iload 6, 2) := by decide +kernel
theorem dX2_follow_89 : decode cX2_follow 89 = .ok (.ishr, 1) := by decide +kernel
theorem dX2_follow_90 : decode cX2_follow 90 = .ok (.iconst 1, 1) := by decide +kernel
theorem dX2_follow_91 : decode cX2_follow 91 = .ok (.iand, 1) := by decide +kernel
theorem dX2_follow_92 : decode cX2_follow 92 = .ok (.ifCond .ne 15, 3) := by decide +kernel
theorem dX2_follow_95 : decode cX2_follow 95 = .ok (.aload_n 0, 1) := by decide +kernel
theorem dX2_follow_96 : decode cX2_follow 96 = .ok (.getfield 85, 3) := by decide +kernel
theorem dX2_follow_99 : decode cX2_follow 99 = .ok (.aload_n 0, 1) := by decide +kernel
theorem dX2_follow_100 : decode cX2_follow 100 = .ok (.getfield 15, 3) := by decide +kernel
theorem dX2_follow_103 : decode cX2_follow 103 = .ok (.arraylength, 1) := by decide +kernel
theorem dX2_follow_104 : decode cX2_follow 104 = .ok (.if_icmp .lt 6, 3) := by decide +kernel
theorem dX2_follow_107 : decode cX2_follow 107 = .ok (.bipush (-3), 2) := by decide +kernel
theorem dX2_follow_109 : decode cX2_follow 109 = .ok (.ireturn, 1) := by decide +kernel
theorem dX2_follow_110 : decode cX2_follow 110 = .ok (.iload 5, 2) := by decide +kernel
theorem dX2_follow_112 : decode cX2_follow 112 = .ok (.iconst 1, 1) := by decide +kernel
theorem dX2_follow_113 : decode cX2_follow 113 = .ok (.iload 6, 2) := by decide +kernel
theorem dX2_follow_115 : decode cX2_follow 115 = .ok (.ishl, 1) := by decide +kernel
theorem dX2_follow_116 : decode cX2_follow 116 = .ok (.ior, 1) := by decide +kernel
theorem dX2_follow_117 : decode cX2_follow 117 = .ok (.istore 5, 2) := by decide +kernel
theorem dX2_follow_119 : decode cX2_follow 119 = .ok (.aload_n 0, 1) := by decide +kernel
theorem dX2_follow_120 : decode cX2_follow 120 = .ok (.getfield 15, 3) := by decide +kernel
theorem dX2_follow_123 : decode cX2_follow 123 = .ok (.aload_n 0, 1) := by decide +kernel
theorem dX2_follow_124 : decode cX2_follow 124 = .ok (.getfield 85, 3) := by decide +kernel
theorem dX2_follow_127 : decode cX2_follow 127 = .ok (.iload 6, 2) := by decide +kernel
theorem dX2_follow_129 : decode cX2_follow 129 = .ok (.iastore, 1) := by decide +kernel
theorem dX2_follow_130 : decode cX2_follow 130 = .ok (.aload_n 0, 1) := by decide +kernel
theorem dX2_follow_131 : decode cX2_follow 131 = .ok (.dup, 1) := by decide +kernel
theorem dX2_follow_132 : decode cX2_follow 132 = .ok (.getfield 85, 3) := by decide +kernel
theorem dX2_follow_135 : decode cX2_follow 135 = .ok (.iconst 1, 1) := by decide +kernel
theorem dX2_follow_136 : decode cX2_follow 136 = .ok (.iadd, 1) := by decide +kernel
theorem dX2_follow_137 : decode cX2_follow 137 = .ok (.putfield 85, 3) := by decide +kernel
theorem dX2_follow_140 : decode cX2_follow 140 = .ok (.iload 8, 2) := by decide +kernel
theorem dX2_follow_142 : decode cX2_follow 142 = .ok (.bipush 100, 2) := by decide +kernel
theorem dX2_follow_144 : decode cX2_follow 144 = .ok (.if_icmp .ge 6, 3) := by decide +kernel
theorem dX2_follow_147 : decode cX2_follow 147 = .ok (.iload 8, 2) := by decide +kernel
theorem dX2_follow_149 : decode cX2_follow 149 = .ok (.ireturn, 1) := by decide +kernel
theorem dX2_follow_150 : decode cX2_follow 150 = .ok (.iload 8, 2) := by decide +kernel
theorem dX2_follow_152 : decode cX2_follow 152 = .ok (.bipush 100, 2) := by decide +kernel
theorem dX2_follow_154 : decode cX2_follow 154 = .ok (.isub, 1) := by decide +kernel
theorem dX2_follow_155 : decode cX2_follow 155 = .ok (.istore 6, 2) := by decide +kernel
theorem dX2_follow_157 : decode cX2_follow 157 = .ok (.iinc 7 1, 3) := by decide +kernel
theorem dX2_follow_160 : decode cX2_follow 160 = .ok (.goto (-136), 3) := by decide +kernel
theorem dX2_follow_163 : decode cX2_follow 163 = .ok (.bipush (-3), 2) := by decide +kernel
theorem dX2_follow_165 : decode cX2_follow 165 = .ok (.ireturn, 1) := by decide +kernel
theorem dX2_given_0 : decode cX2_given 0 = .ok (.aload_n 1, 1) := by decide +kernel
theorem dX2_given_1 : decode cX2_given 1 = .ok (.iload_n 2, 1) := by decide +kernel
theorem dX2_given_2 : decode cX2_given 2 = .ok (.invokevirtual 88, 3) := by decide +kernel
theorem dX2_given_5 : decode cX2_given 5 = .ok (.istore_n 3, 1) := by decide +kernel
theorem dX2_given_6 : decode cX2_given 6 = .ok (.aload_n 0, 1) := by decide +kernel
theorem dX2_given_7 : decode cX2_given 7 = .ok (.aload_n 1, 1) := by decide +kernel
theorem dX2_given_8 : decode cX2_given 8 = .ok (.iload_n 3, 1) := by decide +kernel
theorem dX2_given_9 : decode cX2_given 9 = .ok (.invokevirtual 91, 3) := by decide +kernel
theorem dX2_given_12 : decode cX2_given 12 = .ok (.istore 4, 2) := by decide +kernel
theorem dX2_given_14 : decode cX2_given 14 = .ok (.aload_n 0, 1) := by decide +kernel
theorem dX2_given_15 : decode cX2_given 15 = .ok (.aload_n 1, 1) := by decide +kernel
theorem dX2_given_16 : decode cX2_given 16 = .ok (.iload 4, 2) := by decide +kernel
theorem dX2_given_18 : decode cX2_given 18 = .ok (.iload_n 3, 1) := by decide +kernel
theorem dX2_given_19 : decode cX2_given 19 = .ok (.invokevirtual 95, 3) := by decide +kernel
theorem dX2_given_22 : decode cX2_given 22 = .ok (.istore 5, 2) := by decide +kernel
theorem dX2_given_24 : decode cX2_given 24 = .ok (.aload_n 0, 1) := by decide +kernel
theorem dX2_given_25 : decode cX2_given 25 = .ok (.getfield 9, 3) := by decide +kernel
theorem dX2_given_28 : decode cX2_given 28 = .ok (.getfield 99, 3) := by decide +kernel
theorem dX2_given_31 : decode cX2_given 31 = .ok (.ifCond .eq 20, 3) := by decide +kernel
theorem dX2_given_34 : decode cX2_given 34 = .ok (.iload 5, 2) := by decide +kernel
theorem dX2_given_36 : decode cX2_given 36 = .ok (.ifCond .lt 15, 3) := by decide +kernel
theorem dX2_given_39 : decode cX2_given 39 = .ok (.aload_n 0, 1) := by decide +kernel
theorem dX2_given_40 : decode cX2_given 40 = .ok (.getfield 9, 3) := by decide +kernel
theorem dX2_given_43 : decode cX2_given 43 = .ok (.iload 4, 2) := by decide +kernel
theorem dX2_given_45 : decode cX2_given 45 = .ok (.invokevirtual 19, 3) := by decide +kernel
theorem dX2_given_48 : decode cX2_given 48 = .ok (.ifCond .ne 6, 3) := by decide +kernel
theorem dX2_given_51 : decode cX2_given 51 = .ok (.iload 5, 2) := by decide +kernel
theorem dX2_given_53 : decode cX2_given 53 = .ok (.ireturn, 1) := by decide +kernel
theorem dX2_given_54 : decode cX2_given 54 = .ok (.aload_n 0, 1) := by decide +kernel
theorem dX2_given_55 : decode cX2_given 55 = .ok (.getfield 9, 3) := by decide +kernel
theorem dX2_given_58 : decode cX2_given 58 = .ok (.getfield 25, 3) := by decide +kernel
theorem dX2_given_61 : decode cX2_given 61 = .ok (.iload 4, 2) := by decide +kernel
theorem dX2_given_63 : decode cX2_given 63 = .ok (.aaload, 1) := by decide +kernel
theorem dX2_given_64 : decode cX2_given 64 = .ok (.getfield 76, 3) := by decide +kernel
theorem dX2_given_67 : decode cX2_given 67 = .ok (.aload_n 1, 1) := by decide +kernel
theorem dX2_given_68 : decode cX2_given 68 = .ok (.getfield 34, 3) := by decide +kernel
theorem dX2_given_71 : decode cX2_given 71 = .ok (.if_icmp .gt 6, 3) := by decide +kernel
theorem dX2_given_74 : decode cX2_given 74 = .ok (.iload 5, 2) := by decide +kernel
theorem dX2_given_76 : decode cX2_given 76 = .ok (.ireturn, 1) := by decide +kernel
theorem dX2_given_77 : decode cX2_given 77 = .ok (.aload_n 0, 1) := by decide +kernel
theorem dX2_given_78 : decode cX2_given 78 = .ok (.aload_n 1, 1) := by decide +kernel
theorem dX2_given_79 : decode cX2_given 79 = .ok (.aload_n 0, 1) := by decide +kernel
theorem dX2_given_80 : decode cX2_given 80 = .ok (.aload_n 1, 1) := by decide +kernel
theorem dX2_given_81 : decode cX2_given 81 = .ok (.aload_n 1, 1) := by decide +kernel
theorem dX2_given_82 : decode cX2_given 82 = .ok (.getfield 34, 3) := by decide +kernel
theorem dX2_given_85 : decode cX2_given 85 = .ok (.invokevirtual 91, 3) := by decide +kernel
theorem dX2_given_88 : decode cX2_given 88 = .ok (.aload_n 1, 1) := by decide +kernel
theorem dX2_given_89 : decode cX2_given 89 = .ok (.getfield 34, 3) := by decide +kernel
theorem dX2_given_92 : decode cX2_given 92 = .ok (.invokevirtual 95, 3) := by decide +kernel
theorem dX2_given_95 : decode cX2_given 95 = .ok (.istore 6, 2) := by decide +kernel
theorem dX2_given_97 : decode cX2_given 97 = .ok (.iload 6, 2) := by decide +kernel
theorem dX2_given_99 : decode cX2_given 99 = .ok (.ifCond .ge 8, 3) := by decide +kernel
theorem dX2_given_102 : decode cX2_given 102 = .ok (.iload 5, 2) := by decide +kernel
theorem dX2_given_104 : decode cX2_given 104 = .ok (.goto 10, 3) := by decide +kernel
theorem dX2_given_107 : decode cX2_given 107 = .ok (.iload 5, 2) := by decide +kernel
theorem dX2_given_109 : decode cX2_given 109 = .ok (.iload 6, 2) := by decide +kernel
theorem dX2_given_111 : decode cX2_given 111 = .ok (.invokestatic 102, 3) := by decide +kernel
theorem dX2_given_114 : decode cX2_given 114 = .ok (.ireturn, 1) := by decide +kernel
theorem dX2_isOfThose_0 : decode cX2_isOfThose 0 = .ok (.aload_n 1, 1) := by decide +kernel
theorem dX2_isOfThose_1 : decode cX2_isOfThose 1 = .ok (.iload_n 2, 1) := by decide +kernel
theorem dX2_isOfThose_2 : decode cX2_isOfThose 2 = .ok (.invokevirtual 88, 3) := by decide +kernel
theorem dX2_isOfThose_5 : decode cX2_isOfThose 5 = .ok (.istore 4, 2) := by decide +kernel
theorem dX2_isOfThose_7 : decode cX2_isOfThose 7 = .ok (.aload_n 1, 1) := by decide +kernel
theorem dX2_isOfThose_8 : decode cX2_isOfThose 8 = .ok (.getfield 34, 3) := by decide +kernel
theorem dX2_isOfThose_11 : decode cX2_isOfThose 11 = .ok (.iload 4, 2) := by decide +kernel
theorem dX2_isOfThose_13 : decode cX2_isOfThose 13 = .ok (.if_icmp .gt 7, 3) := by decide +kernel
theorem dX2_isOfThose_16 : decode cX2_isOfThose 16 = .ok (.iconst 1, 1) := by decide +kernel
theorem dX2_isOfThose_17 : decode cX2_isOfThose 17 = .ok (.goto 4, 3) := by decide +kernel
theorem dX2_isOfThose_20 : decode cX2_isOfThose 20 = .ok (.iconst 0, 1) := by decide +kernel
theorem dX2_isOfThose_21 : decode cX2_isOfThose 21 = .ok (.istore 5, 2) := by decide +kernel
theorem dX2_isOfThose_23 : decode cX2_isOfThose 23 = .ok (.iload_n 3, 1) := by decide +kernel
theorem dX2_isOfThose_24 : decode cX2_isOfThose 24 = .ok (.iconst 3, 1) := by decide +kernel
theorem dX2_isOfThose_25 : decode cX2_isOfThose 25 = .ok (.if_icmp .ne 6, 3) := by decide +kernel
theorem dX2_isOfThose_28 : decode cX2_isOfThose 28 = .ok (.iload 5, 2) := by decide +kernel
theorem dX2_isOfThose_30 : decode cX2_isOfThose 30 = .ok (.ireturn, 1) := by decide +kernel
theorem dX2_isOfThose_31 : decode cX2_isOfThose 31 = .ok (.aload_n 0, 1) := by decide +kernel
theorem dX2_isOfThose_32 : decode cX2_isOfThose 32 = .ok (.aload_n 1, 1) := by decide +kernel
theorem dX2_isOfThose_33 : decode cX2_isOfThose 33 = .ok (.iload 4, 2) := by decide +kernel
theorem dX2_isOfThose_35 : decode cX2_isOfThose 35 = .ok (.invokevirtual 91, 3) := by decide +kernel
theorem dX2_isOfThose_38 : decode cX2_isOfThose 38 = .ok (.istore 6, 2) := by decide +kernel
theorem dX2_isOfThose_40 : decode cX2_isOfThose 40 = .ok (.iload_n 3, 1) := by decide +kernel
theorem dX2_isOfThose_41 : decode cX2_isOfThose 41 = .ok (.ifCond .ne 8, 3) := by decide +kernel
theorem dX2_isOfThose_44 : decode cX2_isOfThose 44 = .ok (.aload_n 0, 1) := by decide +kernel
theorem dX2_isOfThose_45 : decode cX2_isOfThose 45 = .ok (.getfield 51, 3) := by decide +kernel
theorem dX2_isOfThose_48 : decode cX2_isOfThose 48 = .ok (.ireturn, 1) := by decide +kernel
theorem dX2_isOfThose_49 : decode cX2_isOfThose 49 = .ok (.iload_n 3, 1) := by decide +kernel
theorem dX2_isOfThose_50 : decode cX2_isOfThose 50 = .ok (.iconst 1, 1) := by decide +kernel
theorem dX2_isOfThose_51 : decode cX2_isOfThose 51 = .ok (.if_icmp .ne 21, 3) := by decide +kernel
theorem dX2_isOfThose_54 : decode cX2_isOfThose 54 = .ok (.iload 5, 2) := by decide +kernel
theorem dX2_isOfThose_56 : decode cX2_isOfThose 56 = .ok (.ifCond .eq 14, 3) := by decide +kernel
theorem dX2_isOfThose_59 : decode cX2_isOfThose 59 = .ok (.iload 6, 2) := by decide +kernel
theorem dX2_isOfThose_61 : decode cX2_isOfThose 61 = .ok (.bipush (-6), 2) := by decide +kernel
theorem dX2_isOfThose_63 : decode cX2_isOfThose 63 = .ok (.if_icmp .ne 7, 3) := by decide +kernel
theorem dX2_isOfThose_66 : decode cX2_isOfThose 66 = .ok (.iconst 1, 1) := by decide +kernel
theorem dX2_isOfThose_67 : decode cX2_isOfThose 67 = .ok (.goto 4, 3) := by decide +kernel
theorem dX2_isOfThose_70 : decode cX2_isOfThose 70 = .ok (.iconst 0, 1) := by decide +kernel
theorem dX2_isOfThose_71 : decode cX2_isOfThose 71 = .ok (.ireturn, 1) := by decide +kernel
theorem dX2_isOfThose_72 : decode cX2_isOfThose 72 = .ok (.aload_n 0, 1) := by decide +kernel
theorem dX2_isOfThose_73 : decode cX2_isOfThose 73 = .ok (.aload_n 1, 1) := by decide +kernel
theorem dX2_isOfThose_74 : decode cX2_isOfThose 74 = .ok (.iload 6, 2) := by decide +kernel
theorem dX2_isOfThose_76 : decode cX2_isOfThose 76 = .ok (.iload 4, 2) := by decide +kernel
theorem dX2_isOfThose_78 : decode cX2_isOfThose 78 = .ok (.invokevirtual 95, 3) := by decide +kernel
theorem dX2_isOfThose_81 : decode cX2_isOfThose 81 = .ok (.bipush (-3), 2) := by decide +kernel
theorem dX2_isOfThose_83 : decode cX2_isOfThose 83 = .ok (.if_icmp .ne 7, 3) := by decide +kernel
theorem dX2_isOfThose_86 : decode cX2_isOfThose 86 = .ok (.iconst 1, 1) := by decide +kernel
theorem dX2_isOfThose_87 : decode cX2_isOfThose 87 = .ok (.goto 4, 3) := by decide +kernel
theorem dX2_isOfThose_90 : decode cX2_isOfThose 90 = .ok (.iconst 0, 1) := by decide +kernel
theorem dX2_isOfThose_91 : decode cX2_isOfThose 91 = .ok (.ireturn, 1) := by decide +kernel
theorem dX2_takenBy_0 : decode cX2_takenBy 0 = .ok (.iconst 0, 1) := by decide +kernel
theorem dX2_takenBy_1 : decode cX2_takenBy 1 = .ok (.istore_n 2, 1) := by decide +kernel
theorem dX2_takenBy_2 : decode cX2_takenBy 2 = .ok (.iconst 0, 1) := by decide +kernel
theorem dX2_takenBy_3 : decode cX2_takenBy 3 = .ok (.istore_n 3, 1) := by decide +kernel
theorem dX2_takenBy_4 : decode cX2_takenBy 4 = .ok (.iload_n 3, 1) := by decide +kernel
theorem dX2_takenBy_5 : decode cX2_takenBy 5 = .ok (.aload_n 0, 1) := by decide +kernel
theorem dX2_takenBy_6 : decode cX2_takenBy 6 = .ok (.getfield 9, 3) := by decide +kernel
theorem dX2_takenBy_9 : decode cX2_takenBy 9 = .ok (.getfield 108, 3) := by decide +kernel
theorem dX2_takenBy_12 : decode cX2_takenBy 12 = .ok (.if_icmp .ge 89, 3) := by decide +kernel
theorem dX2_takenBy_15 : decode cX2_takenBy 15 = .ok (.aload_n 0, 1) := by decide +kernel
theorem dX2_takenBy_16 : decode cX2_takenBy 16 = .ok (.getfield 9, 3) := by decide +kernel
theorem dX2_takenBy_19 : decode cX2_takenBy 19 = .ok (.getfield 111, 3) := by decide +kernel
theorem dX2_takenBy_22 : decode cX2_takenBy 22 = .ok (.iload_n 3, 1) := by decide +kernel
theorem dX2_takenBy_23 : decode cX2_takenBy 23 = .ok (.aaload, 1) := by decide +kernel
theorem dX2_takenBy_24 : decode cX2_takenBy 24 = .ok (.astore 4, 2) := by decide +kernel
theorem dX2_takenBy_26 : decode cX2_takenBy 26 = .ok (.aload_n 0, 1) := by decide +kernel
theorem dX2_takenBy_27 : decode cX2_takenBy 27 = .ok (.getfield 9, 3) := by decide +kernel
theorem dX2_takenBy_30 : decode cX2_takenBy 30 = .ok (.getfield 25, 3) := by decide +kernel
theorem dX2_takenBy_33 : decode cX2_takenBy 33 = .ok (.iload_n 1, 1) := by decide +kernel
theorem dX2_takenBy_34 : decode cX2_takenBy 34 = .ok (.aaload, 1) := by decide +kernel
theorem dX2_takenBy_35 : decode cX2_takenBy 35 = .ok (.getfield 76, 3) := by decide +kernel
theorem dX2_takenBy_38 : decode cX2_takenBy 38 = .ok (.istore 5, 2) := by decide +kernel
theorem dX2_takenBy_40 : decode cX2_takenBy 40 = .ok (.aload 4, 2) := by decide +kernel
theorem dX2_takenBy_42 : decode cX2_takenBy 42 = .ok (.getfield 115, 3) := by decide +kernel
theorem dX2_takenBy_45 : decode cX2_takenBy 45 = .ok (.bipush (-6), 2) := by decide +kernel
theorem dX2_takenBy_47 : decode cX2_takenBy 47 = .ok (.if_icmp .eq 17, 3) := by decide +kernel
theorem dX2_takenBy_50 : decode cX2_takenBy 50 = .ok (.aload 4, 2) := by decide +kernel
theorem dX2_takenBy_52 : decode cX2_takenBy 52 = .ok (.getfield 115, 3) := by decide +kernel
theorem dX2_takenBy_55 : decode cX2_takenBy 55 = .ok (.iload 5, 2) := by decide +kernel
theorem dX2_takenBy_57 : decode cX2_takenBy 57 = .ok (.if_icmp .ge 7, 3) := by decide +kernel
theorem dX2_takenBy_60 : decode cX2_takenBy 60 = .ok (.iconst 1, 1) := by decide +kernel
theorem dX2_takenBy_61 : decode cX2_takenBy 61 = .ok (.goto 4, 3) := by decide +kernel
theorem dX2_takenBy_64 : decode cX2_takenBy 64 = .ok (.iconst 0, 1) := by decide +kernel
theorem dX2_takenBy_65 : decode cX2_takenBy 65 = .ok (.istore 6, 2) := by decide +kernel
theorem dX2_takenBy_67 : decode cX2_takenBy 67 = .ok (.iload 6, 2) := by decide +kernel
theorem dX2_takenBy_69 : decode cX2_takenBy 69 = .ok (.ifCond .eq 26, 3) := by decide +kernel
theorem dX2_takenBy_72 : decode cX2_takenBy 72 = .ok (.aload_n 0, 1) := by decide +kernel
theorem dX2_takenBy_73 : decode cX2_takenBy 73 = .ok (.aload 4, 2) := by decide +kernel
theorem dX2_takenBy_75 : decode cX2_takenBy 75 = .ok (.aload 4, 2) := by decide +kernel
theorem dX2_takenBy_77 : decode cX2_takenBy 77 = .ok (.iload 5, 2) := by decide +kernel
theorem dX2_takenBy_79 : decode cX2_takenBy 79 = .ok (.invokevirtual 88, 3) := by decide +kernel
theorem dX2_takenBy_82 : decode cX2_takenBy 82 = .ok (.invokevirtual 91, 3) := by decide +kernel
theorem dX2_takenBy_85 : decode cX2_takenBy 85 = .ok (.iload_n 1, 1) := by decide +kernel
theorem dX2_takenBy_86 : decode cX2_takenBy 86 = .ok (.if_icmp .ne 9, 3) := by decide +kernel
theorem dX2_takenBy_89 : decode cX2_takenBy 89 = .ok (.iload_n 2, 1) := by decide +kernel
theorem dX2_takenBy_90 : decode cX2_takenBy 90 = .ok (.iconst 1, 1) := by decide +kernel
theorem dX2_takenBy_91 : decode cX2_takenBy 91 = .ok (.iload_n 3, 1) := by decide +kernel
theorem dX2_takenBy_92 : decode cX2_takenBy 92 = .ok (.ishl, 1) := by decide +kernel
theorem dX2_takenBy_93 : decode cX2_takenBy 93 = .ok (.ior, 1) := by decide +kernel
theorem dX2_takenBy_94 : decode cX2_takenBy 94 = .ok (.istore_n 2, 1) := by decide +kernel
theorem dX2_takenBy_95 : decode cX2_takenBy 95 = .ok (.iinc 3 1, 3) := by decide +kernel
theorem dX2_takenBy_98 : decode cX2_takenBy 98 = .ok (.goto (-94), 3) := by decide +kernel
theorem dX2_takenBy_101 : decode cX2_takenBy 101 = .ok (.iload_n 2, 1) := by decide +kernel
theorem dX2_takenBy_102 : decode cX2_takenBy 102 = .ok (.ireturn, 1) := by decide +kernel
theorem dX2_caughtBy_0 : decode cX2_caughtBy 0 = .ok (.iconst 0, 1) := by decide +kernel
theorem dX2_caughtBy_1 : decode cX2_caughtBy 1 = .ok (.istore_n 2, 1) := by decide +kernel
theorem dX2_caughtBy_2 : decode cX2_caughtBy 2 = .ok (.iconst 0, 1) := by decide +kernel
theorem dX2_caughtBy_3 : decode cX2_caughtBy 3 = .ok (.istore_n 3, 1) := by decide +kernel
theorem dX2_caughtBy_4 : decode cX2_caughtBy 4 = .ok (.iload_n 3, 1) := by decide +kernel
theorem dX2_caughtBy_5 : decode cX2_caughtBy 5 = .ok (.aload_n 0, 1) := by decide +kernel
theorem dX2_caughtBy_6 : decode cX2_caughtBy 6 = .ok (.getfield 9, 3) := by decide +kernel
theorem dX2_caughtBy_9 : decode cX2_caughtBy 9 = .ok (.getfield 108, 3) := by decide +kernel
theorem dX2_caughtBy_12 : decode cX2_caughtBy 12 = .ok (.if_icmp .ge 32, 3) := by decide +kernel
theorem dX2_caughtBy_15 : decode cX2_caughtBy 15 = .ok (.aload_n 0, 1) := by decide +kernel
theorem dX2_caughtBy_16 : decode cX2_caughtBy 16 = .ok (.iload_n 1, 1) := by decide +kernel
theorem dX2_caughtBy_17 : decode cX2_caughtBy 17 = .ok (.aload_n 0, 1) := by decide +kernel
theorem dX2_caughtBy_18 : decode cX2_caughtBy 18 = .ok (.getfield 9, 3) := by decide +kernel
theorem dX2_caughtBy_21 : decode cX2_caughtBy 21 = .ok (.getfield 111, 3) := by decide +kernel
theorem dX2_caughtBy_24 : decode cX2_caughtBy 24 = .ok (.iload_n 3, 1) := by decide +kernel
theorem dX2_caughtBy_25 : decode cX2_caughtBy 25 = .ok (.aaload, 1) := by decide +kernel
theorem dX2_caughtBy_26 : decode cX2_caughtBy 26 = .ok (.invokevirtual 118, 3) := by decide +kernel
theorem dX2_caughtBy_29 : decode cX2_caughtBy 29 = .ok (.ifCond .eq 9, 3) := by decide +kernel
theorem dX2_caughtBy_32 : decode cX2_caughtBy 32 = .ok (.iload_n 2, 1) := by decide +kernel
theorem dX2_caughtBy_33 : decode cX2_caughtBy 33 = .ok (.iconst 1, 1) := by decide +kernel
theorem dX2_caughtBy_34 : decode cX2_caughtBy 34 = .ok (.iload_n 3, 1) := by decide +kernel
theorem dX2_caughtBy_35 : decode cX2_caughtBy 35 = .ok (.ishl, 1) := by decide +kernel
theorem dX2_caughtBy_36 : decode cX2_caughtBy 36 = .ok (.ior, 1) := by decide +kernel
theorem dX2_caughtBy_37 : decode cX2_caughtBy 37 = .ok (.istore_n 2, 1) := by decide +kernel
theorem dX2_caughtBy_38 : decode cX2_caughtBy 38 = .ok (.iinc 3 1, 3) := by decide +kernel
theorem dX2_caughtBy_41 : decode cX2_caughtBy 41 = .ok (.goto (-37), 3) := by decide +kernel
theorem dX2_caughtBy_44 : decode cX2_caughtBy 44 = .ok (.iload_n 2, 1) := by decide +kernel
theorem dX2_caughtBy_45 : decode cX2_caughtBy 45 = .ok (.ireturn, 1) := by decide +kernel
theorem dX2_everGoverns_0 : decode cX2_everGoverns 0 = .ok (.aload_n 2, 1) := by decide +kernel
theorem dX2_everGoverns_1 : decode cX2_everGoverns 1 = .ok (.bipush 99, 2) := by decide +kernel
theorem dX2_everGoverns_3 : decode cX2_everGoverns 3 = .ok (.invokevirtual 88, 3) := by decide +kernel
theorem dX2_everGoverns_6 : decode cX2_everGoverns 6 = .ok (.istore_n 3, 1) := by decide +kernel
theorem dX2_everGoverns_7 : decode cX2_everGoverns 7 = .ok (.aload_n 2, 1) := by decide +kernel
theorem dX2_everGoverns_8 : decode cX2_everGoverns 8 = .ok (.getfield 34, 3) := by decide +kernel
theorem dX2_everGoverns_11 : decode cX2_everGoverns 11 = .ok (.istore 4, 2) := by decide +kernel
theorem dX2_everGoverns_13 : decode cX2_everGoverns 13 = .ok (.iload 4, 2) := by decide +kernel
theorem dX2_everGoverns_15 : decode cX2_everGoverns 15 = .ok (.iload_n 3, 1) := by decide +kernel
theorem dX2_everGoverns_16 : decode cX2_everGoverns 16 = .ok (.if_icmp .gt 46, 3) := by decide +kernel
theorem dX2_everGoverns_19 : decode cX2_everGoverns 19 = .ok (.iload 4, 2) := by decide +kernel
theorem dX2_everGoverns_21 : decode cX2_everGoverns 21 = .ok (.aload_n 2, 1) := by decide +kernel
theorem dX2_everGoverns_22 : decode cX2_everGoverns 22 = .ok (.getfield 34, 3) := by decide +kernel
theorem dX2_everGoverns_25 : decode cX2_everGoverns 25 = .ok (.if_icmp .eq 18, 3) := by decide +kernel
theorem dX2_everGoverns_28 : decode cX2_everGoverns 28 = .ok (.aload_n 0, 1) := by decide +kernel
theorem dX2_everGoverns_29 : decode cX2_everGoverns 29 = .ok (.getfield 9, 3) := by decide +kernel
theorem dX2_everGoverns_32 : decode cX2_everGoverns 32 = .ok (.iload 4, 2) := by decide +kernel
theorem dX2_everGoverns_34 : decode cX2_everGoverns 34 = .ok (.invokevirtual 122, 3) := by decide +kernel
theorem dX2_everGoverns_37 : decode cX2_everGoverns 37 = .ok (.ifCond .ne 6, 3) := by decide +kernel
theorem dX2_everGoverns_40 : decode cX2_everGoverns 40 = .ok (.goto 16, 3) := by decide +kernel
theorem dX2_everGoverns_43 : decode cX2_everGoverns 43 = .ok (.aload_n 0, 1) := by decide +kernel
theorem dX2_everGoverns_44 : decode cX2_everGoverns 44 = .ok (.aload_n 2, 1) := by decide +kernel
theorem dX2_everGoverns_45 : decode cX2_everGoverns 45 = .ok (.iload 4, 2) := by decide +kernel
theorem dX2_everGoverns_47 : decode cX2_everGoverns 47 = .ok (.invokevirtual 91, 3) := by decide +kernel
theorem dX2_everGoverns_50 : decode cX2_everGoverns 50 = .ok (.iload_n 1, 1) := by decide +kernel
theorem dX2_everGoverns_51 : decode cX2_everGoverns 51 = .ok (.if_icmp .ne 5, 3) := by decide +kernel
theorem dX2_everGoverns_54 : decode cX2_everGoverns 54 = .ok (.iconst 1, 1) := by decide +kernel
theorem dX2_everGoverns_55 : decode cX2_everGoverns 55 = .ok (.ireturn, 1) := by decide +kernel
theorem dX2_everGoverns_56 : decode cX2_everGoverns 56 = .ok (.iinc 4 1, 3) := by decide +kernel
theorem dX2_everGoverns_59 : decode cX2_everGoverns 59 = .ok (.goto (-46), 3) := by decide +kernel
theorem dX2_everGoverns_62 : decode cX2_everGoverns 62 = .ok (.iconst 0, 1) := by decide +kernel
theorem dX2_everGoverns_63 : decode cX2_everGoverns 63 = .ok (.ireturn, 1) := by decide +kernel
theorem dX3_init_0 : decode cX3_init 0 = .ok (.aload_n 0, 1) := by decide +kernel
theorem dX3_init_1 : decode cX3_init 1 = .ok (.invokespecial 3, 3) := by decide +kernel
theorem dX3_init_4 : decode cX3_init 4 = .ok (.aload_n 0, 1) := by decide +kernel
theorem dX3_init_5 : decode cX3_init 5 = .ok (.bipush 6, 2) := by decide +kernel
theorem dX3_init_7 : decode cX3_init 7 = .ok (.newarray .int, 2) := by decide +kernel
theorem dX3_init_9 : decode cX3_init 9 = .ok (.putfield 9, 3) := by decide +kernel
theorem dX3_init_12 : decode cX3_init 12 = .ok (.aload_n 0, 1) := by decide +kernel
theorem dX3_init_13 : decode cX3_init 13 = .ok (.bipush 6, 2) := by decide +kernel
theorem dX3_init_15 : decode cX3_init 15 = .ok (.newarray .int, 2) := by decide +kernel
theorem dX3_init_17 : decode cX3_init 17 = .ok (.putfield 15, 3) := by decide +kernel
theorem dX3_init_20 : decode cX3_init 20 = .ok (.aload_n 0, 1) := by decide +kernel
theorem dX3_init_21 : decode cX3_init 21 = .ok (.bipush 32, 2) := by decide +kernel
theorem dX3_init_23 : decode cX3_init 23 = .ok (.newarray .int, 2) := by decide +kernel
theorem dX3_init_25 : decode cX3_init 25 = .ok (.putfield 18, 3) := by decide +kernel
theorem dX3_init_28 : decode cX3_init 28 = .ok (.aload_n 0, 1) := by decide +kernel
theorem dX3_init_29 : decode cX3_init 29 = .ok (.bipush 32, 2) := by decide +kernel
theorem dX3_init_31 : decode cX3_init 31 = .ok (.newarray .int, 2) := by decide +kernel
theorem dX3_init_33 : decode cX3_init 33 = .ok (.putfield 21, 3) := by decide +kernel
theorem dX3_init_36 : decode cX3_init 36 = .ok (.return_, 1) := by decide +kernel
theorem dX3_blank_0 : decode cX3_blank 0 = .ok (.aload_n 0, 1) := by decide +kernel
theorem dX3_blank_1 : decode cX3_blank 1 = .ok (.iconst 0, 1) := by decide +kernel
theorem dX3_blank_2 : decode cX3_blank 2 = .ok (.putfield 24, 3) := by decide +kernel
theorem dX3_blank_5 : decode cX3_blank 5 = .ok (.aload_n 0, 1) := by decide +kernel
theorem dX3_blank_6 : decode cX3_blank 6 = .ok (.bipush 110, 2) := by decide +kernel
theorem dX3_blank_8 : decode cX3_blank 8 = .ok (.putfield 28, 3) := by decide +kernel
theorem dX3_blank_11 : decode cX3_blank 11 = .ok (.aload_n 0, 1) := by decide +kernel
theorem dX3_blank_12 : decode cX3_blank 12 = .ok (.bipush (-6), 2) := by decide +kernel
theorem dX3_blank_14 : decode cX3_blank 14 = .ok (.putfield 31, 3) := by decide +kernel
theorem dX3_blank_17 : decode cX3_blank 17 = .ok (.aload_n 0, 1) := by decide +kernel
theorem dX3_blank_18 : decode cX3_blank 18 = .ok (.aload_n 0, 1) := by decide +kernel
theorem dX3_blank_19 : decode cX3_blank 19 = .ok (.getfield 28, 3) := by decide +kernel
theorem dX3_blank_22 : decode cX3_blank 22 = .ok (.putfield 34, 3) := by decide +kernel
theorem dX3_blank_25 : decode cX3_blank 25 = .ok (.aload_n 0, 1) := by decide +kernel
theorem dX3_blank_26 : decode cX3_blank 26 = .ok (.iconst 0, 1) := by decide +kernel
theorem dX3_blank_27 : decode cX3_blank 27 = .ok (.putfield 37, 3) := by decide +kernel
theorem dX3_blank_30 : decode cX3_blank 30 = .ok (.aload_n 0, 1) := by decide +kernel
theorem dX3_blank_31 : decode cX3_blank 31 = .ok (.bipush (-6), 2) := by decide +kernel
theorem dX3_blank_33 : decode cX3_blank 33 = .ok (.putfield 41, 3) := by decide +kernel
theorem dX3_blank_36 : decode cX3_blank 36 = .ok (.aload_n 0, 1) := by decide +kernel
theorem dX3_blank_37 : decode cX3_blank 37 = .ok (.bipush (-6), 2) := by decide +kernel
theorem dX3_blank_39 : decode cX3_blank 39 = .ok (.putfield 44, 3) := by decide +kernel
theorem dX3_blank_42 : decode cX3_blank 42 = .ok (.aload_n 0, 1) := by decide +kernel
theorem dX3_blank_43 : decode cX3_blank 43 = .ok (.bipush (-6), 2) := by decide +kernel
theorem dX3_blank_45 : decode cX3_blank 45 = .ok (.putfield 47, 3) := by decide +kernel
theorem dX3_blank_48 : decode cX3_blank 48 = .ok (.aload_n 0, 1) := by decide +kernel
theorem dX3_blank_49 : decode cX3_blank 49 = .ok (.iconst 0, 1) := by decide +kernel
theorem dX3_blank_50 : decode cX3_blank 50 = .ok (.putfield 50, 3) := by decide +kernel
theorem dX3_blank_53 : decode cX3_blank 53 = .ok (.return_, 1) := by decide +kernel
theorem dX3_addCase_0 : decode cX3_addCase 0 = .ok (.aload_n 0, 1) := by decide +kernel
theorem dX3_addCase_1 : decode cX3_addCase 1 = .ok (.getfield 24, 3) := by decide +kernel
theorem dX3_addCase_4 : decode cX3_addCase 4 = .ok (.bipush 6, 2) := by decide +kernel
theorem dX3_addCase_6 : decode cX3_addCase 6 = .ok (.if_icmp .lt 4, 3) := by decide +kernel
theorem dX3_addCase_9 : decode cX3_addCase 9 = .ok (.return_, 1) := by decide +kernel
theorem dX3_addCase_10 : decode cX3_addCase 10 = .ok (.aload_n 0, 1) := by decide +kernel
theorem dX3_addCase_11 : decode cX3_addCase 11 = .ok (.getfield 9, 3) := by decide +kernel
theorem dX3_addCase_14 : decode cX3_addCase 14 = .ok (.aload_n 0, 1) := by decide +kernel
theorem dX3_addCase_15 : decode cX3_addCase 15 = .ok (.getfield 24, 3) := by decide +kernel
theorem dX3_addCase_18 : decode cX3_addCase 18 = .ok (.iload_n 1, 1) := by decide +kernel
theorem dX3_addCase_19 : decode cX3_addCase 19 = .ok (.iastore, 1) := by decide +kernel
theorem dX3_addCase_20 : decode cX3_addCase 20 = .ok (.aload_n 0, 1) := by decide +kernel
theorem dX3_addCase_21 : decode cX3_addCase 21 = .ok (.getfield 15, 3) := by decide +kernel
theorem dX3_addCase_24 : decode cX3_addCase 24 = .ok (.aload_n 0, 1) := by decide +kernel
theorem dX3_addCase_25 : decode cX3_addCase 25 = .ok (.getfield 24, 3) := by decide +kernel
theorem dX3_addCase_28 : decode cX3_addCase 28 = .ok (.iload_n 2, 1) := by decide +kernel
theorem dX3_addCase_29 : decode cX3_addCase 29 = .ok (.iastore, 1) := by decide +kernel
theorem dX3_addCase_30 : decode cX3_addCase 30 = .ok (.aload_n 0, 1) := by decide +kernel
theorem dX3_addCase_31 : decode cX3_addCase 31 = .ok (.dup, 1) := by decide +kernel
theorem dX3_addCase_32 : decode cX3_addCase 32 = .ok (.getfield 24, 3) := by decide +kernel
theorem dX3_addCase_35 : decode cX3_addCase 35 = .ok (.iconst 1, 1) := by decide +kernel
theorem dX3_addCase_36 : decode cX3_addCase 36 = .ok (.iadd, 1) := by decide +kernel
theorem dX3_addCase_37 : decode cX3_addCase 37 = .ok (.putfield 24, 3) := by decide +kernel
theorem dX3_addCase_40 : decode cX3_addCase 40 = .ok (.return_, 1) := by decide +kernel
theorem dX3_fitCases_0 : decode cX3_fitCases 0 = .ok (.iconst 0, 1) := by decide +kernel
theorem dX3_fitCases_1 : decode cX3_fitCases 1 = .ok (.istore_n 1, 1) := by decide +kernel
theorem dX3_fitCases_2 : decode cX3_fitCases 2 = .ok (.iload_n 1, 1) := by decide +kernel
theorem dX3_fitCases_3 : decode cX3_fitCases 3 = .ok (.bipush 32, 2) := by decide +kernel
theorem dX3_fitCases_5 : decode cX3_fitCases 5 = .ok (.if_icmp .ge 63, 3) := by decide +kernel
theorem dX3_fitCases_8 : decode cX3_fitCases 8 = .ok (.aload_n 0, 1) := by decide +kernel
theorem dX3_fitCases_9 : decode cX3_fitCases 9 = .ok (.iload_n 1, 1) := by decide +kernel
theorem dX3_fitCases_10 : decode cX3_fitCases 10 = .ok (.invokevirtual 53, 3) := by decide +kernel
theorem dX3_fitCases_13 : decode cX3_fitCases 13 = .ok (.istore_n 2, 1) := by decide +kernel
theorem dX3_fitCases_14 : decode cX3_fitCases 14 = .ok (.aload_n 0, 1) := by decide +kernel
theorem dX3_fitCases_15 : decode cX3_fitCases 15 = .ok (.getfield 18, 3) := by decide +kernel
theorem dX3_fitCases_18 : decode cX3_fitCases 18 = .ok (.iload_n 1, 1) := by decide +kernel
theorem dX3_fitCases_19 : decode cX3_fitCases 19 = .ok (.iload_n 2, 1) := by decide +kernel
theorem dX3_fitCases_20 : decode cX3_fitCases 20 = .ok (.bipush (-6), 2) := by decide +kernel
theorem dX3_fitCases_22 : decode cX3_fitCases 22 = .ok (.if_icmp .ne 8, 3) := by decide +kernel
theorem dX3_fitCases_25 : decode cX3_fitCases 25 = .ok (.bipush (-6), 2) := by decide +kernel
theorem dX3_fitCases_27 : decode cX3_fitCases 27 = .ok (.goto 9, 3) := by decide +kernel
theorem dX3_fitCases_30 : decode cX3_fitCases 30 = .ok (.aload_n 0, 1) := by decide +kernel
theorem dX3_fitCases_31 : decode cX3_fitCases 31 = .ok (.getfield 15, 3) := by decide +kernel
theorem dX3_fitCases_34 : decode cX3_fitCases 34 = .ok (.iload_n 2, 1) := by decide +kernel
theorem dX3_fitCases_35 : decode cX3_fitCases 35 = .ok (.iaload, 1) := by decide +kernel
theorem dX3_fitCases_36 : decode cX3_fitCases 36 = .ok (.iastore, 1) := by decide +kernel
theorem dX3_fitCases_37 : decode cX3_fitCases 37 = .ok (.aload_n 0, 1) := by decide +kernel
theorem dX3_fitCases_38 : decode cX3_fitCases 38 = .ok (.getfield 21, 3) := by decide +kernel
theorem dX3_fitCases_41 : decode cX3_fitCases 41 = .ok (.iload_n 1, 1) := by decide +kernel
theorem dX3_fitCases_42 : decode cX3_fitCases 42 = .ok (.iload_n 2, 1) := by decide +kernel
theorem dX3_fitCases_43 : decode cX3_fitCases 43 = .ok (.bipush (-6), 2) := by decide +kernel
theorem dX3_fitCases_45 : decode cX3_fitCases 45 = .ok (.if_icmp .ne 7, 3) := by decide +kernel
theorem dX3_fitCases_48 : decode cX3_fitCases 48 = .ok (.iconst 0, 1) := by decide +kernel
theorem dX3_fitCases_49 : decode cX3_fitCases 49 = .ok (.goto 12, 3) := by decide +kernel
theorem dX3_fitCases_52 : decode cX3_fitCases 52 = .ok (.aload_n 0, 1) := by decide +kernel
theorem dX3_fitCases_53 : decode cX3_fitCases 53 = .ok (.getfield 9, 3) := by decide +kernel
theorem dX3_fitCases_56 : decode cX3_fitCases 56 = .ok (.iload_n 2, 1) := by decide +kernel
theorem dX3_fitCases_57 : decode cX3_fitCases 57 = .ok (.iaload, 1) := by decide +kernel
theorem dX3_fitCases_58 : decode cX3_fitCases 58 = .ok (.invokestatic 57, 3) := by decide +kernel
theorem dX3_fitCases_61 : decode cX3_fitCases 61 = .ok (.iastore, 1) := by decide +kernel
theorem dX3_fitCases_62 : decode cX3_fitCases 62 = .ok (.iinc 1 1, 3) := by decide +kernel
theorem dX3_fitCases_65 : decode cX3_fitCases 65 = .ok (.goto (-63), 3) := by decide +kernel
theorem dX3_fitCases_68 : decode cX3_fitCases 68 = .ok (.return_, 1) := by decide +kernel
theorem dX3_firstFitting_0 : decode cX3_firstFitting 0 = .ok (.iconst 0, 1) := by decide +kernel
theorem dX3_firstFitting_1 : decode cX3_firstFitting 1 = .ok (.istore_n 2, 1) := by decide +kernel
theorem dX3_firstFitting_2 : decode cX3_firstFitting 2 = .ok (.iload_n 2, 1) := by decide +kernel
theorem dX3_firstFitting_3 : decode cX3_firstFitting 3 = .ok (.aload_n 0, 1) := by decide +kernel
theorem dX3_firstFitting_4 : decode cX3_firstFitting 4 = .ok (.getfield 24, 3) := by decide +kernel
theorem dX3_firstFitting_7 : decode cX3_firstFitting 7 = .ok (.if_icmp .ge 24, 3) := by decide +kernel
theorem dX3_firstFitting_10 : decode cX3_firstFitting 10 = .ok (.aload_n 0, 1) := by decide +kernel
theorem dX3_firstFitting_11 : decode cX3_firstFitting 11 = .ok (.getfield 9, 3) := by decide +kernel
theorem dX3_firstFitting_14 : decode cX3_firstFitting 14 = .ok (.iload_n 2, 1) := by decide +kernel
theorem dX3_firstFitting_15 : decode cX3_firstFitting 15 = .ok (.iaload, 1) := by decide +kernel
theorem dX3_firstFitting_16 : decode cX3_firstFitting 16 = .ok (.iload_n 1, 1) := by decide +kernel
theorem dX3_firstFitting_17 : decode cX3_firstFitting 17 = .ok (.iconst (-1), 1) := by decide +kernel
theorem dX3_firstFitting_18 : decode cX3_firstFitting 18 = .ok (.ixor, 1) := by decide +kernel
theorem dX3_firstFitting_19 : decode cX3_firstFitting 19 = .ok (.iand, 1) := by decide +kernel
theorem dX3_firstFitting_20 : decode cX3_firstFitting 20 = .ok (.ifCond .ne 5, 3) := by decide +kernel
theorem dX3_firstFitting_23 : decode cX3_firstFitting 23 = .ok (.iload_n 2, 1) := by decide +kernel
theorem dX3_firstFitting_24 : decode cX3_firstFitting 24 = .ok (.ireturn, 1) := by decide +kernel
theorem dX3_firstFitting_25 : decode cX3_firstFitting 25 = .ok (.iinc 2 1, 3) := by decide +kernel
theorem dX3_firstFitting_28 : decode cX3_firstFitting 28 = .ok (.goto (-26), 3) := by decide +kernel
theorem dX3_firstFitting_31 : decode cX3_firstFitting 31 = .ok (.bipush (-6), 2) := by decide +kernel
theorem dX3_firstFitting_33 : decode cX3_firstFitting 33 = .ok (.ireturn, 1) := by decide +kernel
theorem dX3_takeText_0 : decode cX3_takeText 0 = .ok (.aload_n 0, 1) := by decide +kernel
theorem dX3_takeText_1 : decode cX3_takeText 1 = .ok (.aload_n 1, 1) := by decide +kernel
theorem dX3_takeText_2 : decode cX3_takeText 2 = .ok (.getfield 24, 3) := by decide +kernel
theorem dX3_takeText_5 : decode cX3_takeText 5 = .ok (.putfield 24, 3) := by decide +kernel
theorem dX3_takeText_8 : decode cX3_takeText 8 = .ok (.aload_n 1, 1) := by decide +kernel
theorem dX3_takeText_9 : decode cX3_takeText 9 = .ok (.getfield 9, 3) := by decide +kernel
theorem dX3_takeText_12 : decode cX3_takeText 12 = .ok (.iconst 0, 1) := by decide +kernel
theorem dX3_takeText_13 : decode cX3_takeText 13 = .ok (.aload_n 0, 1) := by decide +kernel
theorem dX3_takeText_14 : decode cX3_takeText 14 = .ok (.getfield 9, 3) := by decide +kernel
theorem dX3_takeText_17 : decode cX3_takeText 17 = .ok (.iconst 0, 1) := by decide +kernel
theorem dX3_takeText_18 : decode cX3_takeText 18 = .ok (.bipush 6, 2) := by decide +kernel
theorem dX3_takeText_20 : decode cX3_takeText 20 = .ok (.invokestatic 62, 3) := by decide +kernel
theorem dX3_takeText_23 : decode cX3_takeText 23 = .ok (.aload_n 1, 1) := by decide +kernel
theorem dX3_takeText_24 : decode cX3_takeText 24 = .ok (.getfield 15, 3) := by decide +kernel
theorem dX3_takeText_27 : decode cX3_takeText 27 = .ok (.iconst 0, 1) := by decide +kernel
theorem dX3_takeText_28 : decode cX3_takeText 28 = .ok (.aload_n 0, 1) := by decide +kernel
theorem dX3_takeText_29 : decode cX3_takeText 29 = .ok (.getfield 15, 3) := by decide +kernel
theorem dX3_takeText_32 : decode cX3_takeText 32 = .ok (.iconst 0, 1) := by decide +kernel
theorem dX3_takeText_33 : decode cX3_takeText 33 = .ok (.bipush 6, 2) := by decide +kernel
theorem dX3_takeText_35 : decode cX3_takeText 35 = .ok (.invokestatic 62, 3) := by decide +kernel
theorem dX3_takeText_38 : decode cX3_takeText 38 = .ok (.aload_n 1, 1) := by decide +kernel
theorem dX3_takeText_39 : decode cX3_takeText 39 = .ok (.getfield 18, 3) := by decide +kernel
theorem dX3_takeText_42 : decode cX3_takeText 42 = .ok (.iconst 0, 1) := by decide +kernel
theorem dX3_takeText_43 : decode cX3_takeText 43 = .ok (.aload_n 0, 1) := by decide +kernel
theorem dX3_takeText_44 : decode cX3_takeText 44 = .ok (.getfield 18, 3) := by decide +kernel
theorem dX3_takeText_47 : decode cX3_takeText 47 = .ok (.iconst 0, 1) := by decide +kernel
theorem dX3_takeText_48 : decode cX3_takeText 48 = .ok (.bipush 32, 2) := by decide +kernel
theorem dX3_takeText_50 : decode cX3_takeText 50 = .ok (.invokestatic 62, 3) := by decide +kernel
theorem dX3_takeText_53 : decode cX3_takeText 53 = .ok (.aload_n 1, 1) := by decide +kernel
theorem dX3_takeText_54 : decode cX3_takeText 54 = .ok (.getfield 21, 3) := by decide +kernel
theorem dX3_takeText_57 : decode cX3_takeText 57 = .ok (.iconst 0, 1) := by decide +kernel
theorem dX3_takeText_58 : decode cX3_takeText 58 = .ok (.aload_n 0, 1) := by decide +kernel
theorem dX3_takeText_59 : decode cX3_takeText 59 = .ok (.getfield 21, 3) := by decide +kernel
theorem dX3_takeText_62 : decode cX3_takeText 62 = .ok (.iconst 0, 1) := by decide +kernel
theorem dX3_takeText_63 : decode cX3_takeText 63 = .ok (.bipush 32, 2) := by decide +kernel
theorem dX3_takeText_65 : decode cX3_takeText 65 = .ok (.invokestatic 62, 3) := by decide +kernel
theorem dX3_takeText_68 : decode cX3_takeText 68 = .ok (.aload_n 0, 1) := by decide +kernel
theorem dX3_takeText_69 : decode cX3_takeText 69 = .ok (.aload_n 1, 1) := by decide +kernel
theorem dX3_takeText_70 : decode cX3_takeText 70 = .ok (.getfield 28, 3) := by decide +kernel
theorem dX3_takeText_73 : decode cX3_takeText 73 = .ok (.putfield 28, 3) := by decide +kernel
theorem dX3_takeText_76 : decode cX3_takeText 76 = .ok (.aload_n 0, 1) := by decide +kernel
theorem dX3_takeText_77 : decode cX3_takeText 77 = .ok (.aload_n 1, 1) := by decide +kernel
theorem dX3_takeText_78 : decode cX3_takeText 78 = .ok (.getfield 31, 3) := by decide +kernel
theorem dX3_takeText_81 : decode cX3_takeText 81 = .ok (.putfield 31, 3) := by decide +kernel
theorem dX3_takeText_84 : decode cX3_takeText 84 = .ok (.aload_n 0, 1) := by decide +kernel
theorem dX3_takeText_85 : decode cX3_takeText 85 = .ok (.aload_n 1, 1) := by decide +kernel
theorem dX3_takeText_86 : decode cX3_takeText 86 = .ok (.getfield 34, 3) := by decide +kernel
theorem dX3_takeText_89 : decode cX3_takeText 89 = .ok (.putfield 34, 3) := by decide +kernel
theorem dX3_takeText_92 : decode cX3_takeText 92 = .ok (.aload_n 0, 1) := by decide +kernel
theorem dX3_takeText_93 : decode cX3_takeText 93 = .ok (.aload_n 1, 1) := by decide +kernel
theorem dX3_takeText_94 : decode cX3_takeText 94 = .ok (.getfield 37, 3) := by decide +kernel
theorem dX3_takeText_97 : decode cX3_takeText 97 = .ok (.putfield 37, 3) := by decide +kernel
theorem dX3_takeText_100 : decode cX3_takeText 100 = .ok (.aload_n 0, 1) := by decide +kernel
theorem dX3_takeText_101 : decode cX3_takeText 101 = .ok (.aload_n 1, 1) := by decide +kernel
theorem dX3_takeText_102 : decode cX3_takeText 102 = .ok (.getfield 41, 3) := by decide +kernel
theorem dX3_takeText_105 : decode cX3_takeText 105 = .ok (.putfield 41, 3) := by decide +kernel
theorem dX3_takeText_108 : decode cX3_takeText 108 = .ok (.aload_n 0, 1) := by decide +kernel
theorem dX3_takeText_109 : decode cX3_takeText 109 = .ok (.aload_n 1, 1) := by decide +kernel
theorem dX3_takeText_110 : decode cX3_takeText 110 = .ok (.getfield 44, 3) := by decide +kernel
theorem dX3_takeText_113 : decode cX3_takeText 113 = .ok (.putfield 44, 3) := by decide +kernel
theorem dX3_takeText_116 : decode cX3_takeText 116 = .ok (.aload_n 0, 1) := by decide +kernel
theorem dX3_takeText_117 : decode cX3_takeText 117 = .ok (.aload_n 1, 1) := by decide +kernel
theorem dX3_takeText_118 : decode cX3_takeText 118 = .ok (.getfield 47, 3) := by decide +kernel
theorem dX3_takeText_121 : decode cX3_takeText 121 = .ok (.putfield 47, 3) := by decide +kernel
theorem dX3_takeText_124 : decode cX3_takeText 124 = .ok (.aload_n 0, 1) := by decide +kernel
theorem dX3_takeText_125 : decode cX3_takeText 125 = .ok (.aload_n 1, 1) := by decide +kernel
theorem dX3_takeText_126 : decode cX3_takeText 126 = .ok (.getfield 50, 3) := by decide +kernel
theorem dX3_takeText_129 : decode cX3_takeText 129 = .ok (.putfield 50, 3) := by decide +kernel
theorem dX3_takeText_132 : decode cX3_takeText 132 = .ok (.return_, 1) := by decide +kernel
theorem dX3_copyFrom_0 : decode cX3_copyFrom 0 = .ok (.aload_n 0, 1) := by decide +kernel
theorem dX3_copyFrom_1 : decode cX3_copyFrom 1 = .ok (.aload_n 1, 1) := by decide +kernel
theorem dX3_copyFrom_2 : decode cX3_copyFrom 2 = .ok (.invokevirtual 68, 3) := by decide +kernel
theorem dX3_copyFrom_5 : decode cX3_copyFrom 5 = .ok (.aload_n 0, 1) := by decide +kernel
theorem dX3_copyFrom_6 : decode cX3_copyFrom 6 = .ok (.aload_n 1, 1) := by decide +kernel
theorem dX3_copyFrom_7 : decode cX3_copyFrom 7 = .ok (.getfield 72, 3) := by decide +kernel
theorem dX3_copyFrom_10 : decode cX3_copyFrom 10 = .ok (.putfield 72, 3) := by decide +kernel
theorem dX3_copyFrom_13 : decode cX3_copyFrom 13 = .ok (.aload_n 0, 1) := by decide +kernel
theorem dX3_copyFrom_14 : decode cX3_copyFrom 14 = .ok (.aload_n 1, 1) := by decide +kernel
theorem dX3_copyFrom_15 : decode cX3_copyFrom 15 = .ok (.getfield 75, 3) := by decide +kernel
theorem dX3_copyFrom_18 : decode cX3_copyFrom 18 = .ok (.putfield 75, 3) := by decide +kernel
theorem dX3_copyFrom_21 : decode cX3_copyFrom 21 = .ok (.return_, 1) := by decide +kernel
theorem dX3_isInForce_0 : decode cX3_isInForce 0 = .ok (.aload_n 0, 1) := by decide +kernel
theorem dX3_isInForce_1 : decode cX3_isInForce 1 = .ok (.getfield 72, 3) := by decide +kernel
theorem dX3_isInForce_4 : decode cX3_isInForce 4 = .ok (.iload_n 1, 1) := by decide +kernel
theorem dX3_isInForce_5 : decode cX3_isInForce 5 = .ok (.if_icmp .gt 15, 3) := by decide +kernel
theorem dX3_isInForce_8 : decode cX3_isInForce 8 = .ok (.iload_n 1, 1) := by decide +kernel
theorem dX3_isInForce_9 : decode cX3_isInForce 9 = .ok (.aload_n 0, 1) := by decide +kernel
theorem dX3_isInForce_10 : decode cX3_isInForce 10 = .ok (.getfield 75, 3) := by decide +kernel
theorem dX3_isInForce_13 : decode cX3_isInForce 13 = .ok (.if_icmp .ge 7, 3) := by decide +kernel
theorem dX3_isInForce_16 : decode cX3_isInForce 16 = .ok (.iconst 1, 1) := by decide +kernel
theorem dX3_isInForce_17 : decode cX3_isInForce 17 = .ok (.goto 4, 3) := by decide +kernel
theorem dX3_isInForce_20 : decode cX3_isInForce 20 = .ok (.iconst 0, 1) := by decide +kernel
theorem dX3_isInForce_21 : decode cX3_isInForce 21 = .ok (.ireturn, 1) := by decide +kernel
theorem dX3_daysInForce_0 : decode cX3_daysInForce 0 = .ok (.aload_n 0, 1) := by decide +kernel
theorem dX3_daysInForce_1 : decode cX3_daysInForce 1 = .ok (.getfield 75, 3) := by decide +kernel
theorem dX3_daysInForce_4 : decode cX3_daysInForce 4 = .ok (.aload_n 0, 1) := by decide +kernel
theorem dX3_daysInForce_5 : decode cX3_daysInForce 5 = .ok (.getfield 72, 3) := by decide +kernel
theorem dX3_daysInForce_8 : decode cX3_daysInForce 8 = .ok (.isub, 1) := by decide +kernel
theorem dX3_daysInForce_9 : decode cX3_daysInForce 9 = .ok (.ireturn, 1) := by decide +kernel
theorem dX3_giftFor_0 : decode cX3_giftFor 0 = .ok (.iload_n 1, 1) := by decide +kernel
theorem dX3_giftFor_1 : decode cX3_giftFor 1 = .ok (.ifCond .lt 18, 3) := by decide +kernel
theorem dX3_giftFor_4 : decode cX3_giftFor 4 = .ok (.iload_n 1, 1) := by decide +kernel
theorem dX3_giftFor_5 : decode cX3_giftFor 5 = .ok (.bipush 32, 2) := by decide +kernel
theorem dX3_giftFor_7 : decode cX3_giftFor 7 = .ok (.if_icmp .ge 12, 3) := by decide +kernel
theorem dX3_giftFor_10 : decode cX3_giftFor 10 = .ok (.aload_n 0, 1) := by decide +kernel
theorem dX3_giftFor_11 : decode cX3_giftFor 11 = .ok (.getfield 18, 3) := by decide +kernel
theorem dX3_giftFor_14 : decode cX3_giftFor 14 = .ok (.iload_n 1, 1) := by decide +kernel
theorem dX3_giftFor_15 : decode cX3_giftFor 15 = .ok (.iaload, 1) := by decide +kernel
theorem dX3_giftFor_16 : decode cX3_giftFor 16 = .ok (.goto 5, 3) := by decide +kernel
theorem dX3_giftFor_19 : decode cX3_giftFor 19 = .ok (.bipush (-6), 2) := by decide +kernel
theorem dX3_giftFor_21 : decode cX3_giftFor 21 = .ok (.ireturn, 1) := by decide +kernel
theorem dX3_weightFor_0 : decode cX3_weightFor 0 = .ok (.iload_n 1, 1) := by decide +kernel
theorem dX3_weightFor_1 : decode cX3_weightFor 1 = .ok (.ifCond .lt 18, 3) := by decide +kernel
theorem dX3_weightFor_4 : decode cX3_weightFor 4 = .ok (.iload_n 1, 1) := by decide +kernel
theorem dX3_weightFor_5 : decode cX3_weightFor 5 = .ok (.bipush 32, 2) := by decide +kernel
theorem dX3_weightFor_7 : decode cX3_weightFor 7 = .ok (.if_icmp .ge 12, 3) := by decide +kernel
theorem dX3_weightFor_10 : decode cX3_weightFor 10 = .ok (.aload_n 0, 1) := by decide +kernel
theorem dX3_weightFor_11 : decode cX3_weightFor 11 = .ok (.getfield 21, 3) := by decide +kernel
theorem dX3_weightFor_14 : decode cX3_weightFor 14 = .ok (.iload_n 1, 1) := by decide +kernel
theorem dX3_weightFor_15 : decode cX3_weightFor 15 = .ok (.iaload, 1) := by decide +kernel
theorem dX3_weightFor_16 : decode cX3_weightFor 16 = .ok (.goto 4, 3) := by decide +kernel
theorem dX3_weightFor_19 : decode cX3_weightFor 19 = .ok (.iconst 0, 1) := by decide +kernel
theorem dX3_weightFor_20 : decode cX3_weightFor 20 = .ok (.ireturn, 1) := by decide +kernel
theorem dX3_reachesByTime_0 : decode cX3_reachesByTime 0 = .ok (.aload_n 1, 1) := by decide +kernel
theorem dX3_reachesByTime_1 : decode cX3_reachesByTime 1 = .ok (.getfield 78, 3) := by decide +kernel
theorem dX3_reachesByTime_4 : decode cX3_reachesByTime 4 = .ok (.aload_n 0, 1) := by decide +kernel
theorem dX3_reachesByTime_5 : decode cX3_reachesByTime 5 = .ok (.getfield 72, 3) := by decide +kernel
theorem dX3_reachesByTime_8 : decode cX3_reachesByTime 8 = .ok (.if_icmp .lt 7, 3) := by decide +kernel
theorem dX3_reachesByTime_11 : decode cX3_reachesByTime 11 = .ok (.iconst 1, 1) := by decide +kernel
theorem dX3_reachesByTime_12 : decode cX3_reachesByTime 12 = .ok (.goto 4, 3) := by decide +kernel
theorem dX3_reachesByTime_15 : decode cX3_reachesByTime 15 = .ok (.iconst 0, 1) := by decide +kernel
theorem dX3_reachesByTime_16 : decode cX3_reachesByTime 16 = .ok (.istore_n 2, 1) := by decide +kernel
theorem dX3_reachesByTime_17 : decode cX3_reachesByTime 17 = .ok (.aload_n 1, 1) := by decide +kernel
theorem dX3_reachesByTime_18 : decode cX3_reachesByTime 18 = .ok (.getfield 83, 3) := by decide +kernel
theorem dX3_reachesByTime_21 : decode cX3_reachesByTime 21 = .ok (.bipush (-6), 2) := by decide +kernel
theorem dX3_reachesByTime_23 : decode cX3_reachesByTime 23 = .ok (.if_icmp .eq 14, 3) := by decide +kernel
theorem dX3_reachesByTime_26 : decode cX3_reachesByTime 26 = .ok (.aload_n 1, 1) := by decide +kernel
theorem dX3_reachesByTime_27 : decode cX3_reachesByTime 27 = .ok (.getfield 83, 3) := by decide +kernel
theorem dX3_reachesByTime_30 : decode cX3_reachesByTime 30 = .ok (.aload_n 0, 1) := by decide +kernel
theorem dX3_reachesByTime_31 : decode cX3_reachesByTime 31 = .ok (.getfield 72, 3) := by decide +kernel
theorem dX3_reachesByTime_34 : decode cX3_reachesByTime 34 = .ok (.if_icmp .lt 7, 3) := by decide +kernel
theorem dX3_reachesByTime_37 : decode cX3_reachesByTime 37 = .ok (.iconst 1, 1) := by decide +kernel
theorem dX3_reachesByTime_38 : decode cX3_reachesByTime 38 = .ok (.goto 4, 3) := by decide +kernel
theorem dX3_reachesByTime_41 : decode cX3_reachesByTime 41 = .ok (.iconst 0, 1) := by decide +kernel
theorem dX3_reachesByTime_42 : decode cX3_reachesByTime 42 = .ok (.istore_n 3, 1) := by decide +kernel
theorem dX3_reachesByTime_43 : decode cX3_reachesByTime 43 = .ok (.aload_n 0, 1) := by decide +kernel
theorem dX3_reachesByTime_44 : decode cX3_reachesByTime 44 = .ok (.getfield 37, 3) := by decide +kernel
theorem dX3_reachesByTime_47 : decode cX3_reachesByTime 47 = .ok (.ifCond .eq 9, 3) := by decide +kernel
theorem dX3_reachesByTime_50 : decode cX3_reachesByTime 50 = .ok (.iload_n 3, 1) := by decide +kernel
theorem dX3_reachesByTime_51 : decode cX3_reachesByTime 51 = .ok (.ifCond .ne 5, 3) := by decide +kernel
theorem dX3_reachesByTime_54 : decode cX3_reachesByTime 54 = .ok (.iconst 0, 1) := by decide +kernel
theorem dX3_reachesByTime_55 : decode cX3_reachesByTime 55 = .ok (.ireturn, 1) := by decide +kernel
theorem dX3_reachesByTime_56 : decode cX3_reachesByTime 56 = .ok (.aload_n 0, 1) := by decide +kernel
theorem dX3_reachesByTime_57 : decode cX3_reachesByTime 57 = .ok (.getfield 34, 3) := by decide +kernel
theorem dX3_reachesByTime_60 : decode cX3_reachesByTime 60 = .ok (.bipush 97, 2) := by decide +kernel
theorem dX3_reachesByTime_62 : decode cX3_reachesByTime 62 = .ok (.if_icmp .ne 5, 3) := by decide +kernel
theorem dX3_reachesByTime_65 : decode cX3_reachesByTime 65 = .ok (.iconst 1, 1) := by decide +kernel
theorem dX3_reachesByTime_66 : decode cX3_reachesByTime 66 = .ok (.ireturn, 1) := by decide +kernel
theorem dX3_reachesByTime_67 : decode cX3_reachesByTime 67 = .ok (.iload_n 2, 1) := by decide +kernel
theorem dX3_reachesByTime_68 : decode cX3_reachesByTime 68 = .ok (.ifCond .ne 16, 3) := by decide +kernel
theorem dX3_reachesByTime_71 : decode cX3_reachesByTime 71 = .ok (.aload_n 0, 1) := by decide +kernel
theorem dX3_reachesByTime_72 : decode cX3_reachesByTime 72 = .ok (.getfield 34, 3) := by decide +kernel
theorem dX3_reachesByTime_75 : decode cX3_reachesByTime 75 = .ok (.bipush 104, 2) := by decide +kernel
theorem dX3_reachesByTime_77 : decode cX3_reachesByTime 77 = .ok (.if_icmp .ne 11, 3) := by decide +kernel
theorem dX3_reachesByTime_80 : decode cX3_reachesByTime 80 = .ok (.iload_n 3, 1) := by decide +kernel
theorem dX3_reachesByTime_81 : decode cX3_reachesByTime 81 = .ok (.ifCond .eq 7, 3) := by decide +kernel
theorem dX3_reachesByTime_84 : decode cX3_reachesByTime 84 = .ok (.iconst 1, 1) := by decide +kernel
theorem dX3_reachesByTime_85 : decode cX3_reachesByTime 85 = .ok (.goto 4, 3) := by decide +kernel
theorem dX3_reachesByTime_88 : decode cX3_reachesByTime 88 = .ok (.iconst 0, 1) := by decide +kernel
theorem dX3_reachesByTime_89 : decode cX3_reachesByTime 89 = .ok (.ireturn, 1) := by decide +kernel
theorem dX4_init_0 : decode cX4_init 0 = .ok (.aload_n 0, 1) := by decide +kernel
theorem dX4_init_1 : decode cX4_init 1 = .ok (.invokespecial 3, 3) := by decide +kernel
theorem dX4_init_4 : decode cX4_init 4 = .ok (.aload_n 0, 1) := by decide +kernel
theorem dX4_init_5 : decode cX4_init 5 = .ok (.aload_n 1, 1) := by decide +kernel
theorem dX4_init_6 : decode cX4_init 6 = .ok (.putfield 9, 3) := by decide +kernel
theorem dX4_init_9 : decode cX4_init 9 = .ok (.aload_n 0, 1) := by decide +kernel
theorem dX4_init_10 : decode cX4_init 10 = .ok (.aload_n 2, 1) := by decide +kernel
theorem dX4_init_11 : decode cX4_init 11 = .ok (.putfield 15, 3) := by decide +kernel
theorem dX4_init_14 : decode cX4_init 14 = .ok (.aload_n 0, 1) := by decide +kernel
theorem dX4_init_15 : decode cX4_init 15 = .ok (.bipush 8, 2) := by decide +kernel
theorem dX4_init_17 : decode cX4_init 17 = .ok (.newarray .int, 2) := by decide +kernel
theorem dX4_init_19 : decode cX4_init 19 = .ok (.putfield 19, 3) := by decide +kernel
theorem dX4_init_22 : decode cX4_init 22 = .ok (.return_, 1) := by decide +kernel
theorem dX4_search_0 : decode cX4_search 0 = .ok (.aload_n 0, 1) := by decide +kernel
theorem dX4_search_1 : decode cX4_search 1 = .ok (.iload_n 2, 1) := by decide +kernel
theorem dX4_search_2 : decode cX4_search 2 = .ok (.invokevirtual 23, 3) := by decide +kernel
theorem dX4_search_5 : decode cX4_search 5 = .ok (.aload_n 1, 1) := by decide +kernel
theorem dX4_search_6 : decode cX4_search 6 = .ok (.getfield 27, 3) := by decide +kernel
theorem dX4_search_9 : decode cX4_search 9 = .ok (.istore_n 3, 1) := by decide +kernel
theorem dX4_search_10 : decode cX4_search 10 = .ok (.aload_n 1, 1) := by decide +kernel
theorem dX4_search_11 : decode cX4_search 11 = .ok (.getfield 33, 3) := by decide +kernel
theorem dX4_search_14 : decode cX4_search 14 = .ok (.istore 4, 2) := by decide +kernel
theorem dX4_search_16 : decode cX4_search 16 = .ok (.aload_n 0, 1) := by decide +kernel
theorem dX4_search_17 : decode cX4_search 17 = .ok (.bipush (-6), 2) := by decide +kernel
theorem dX4_search_19 : decode cX4_search 19 = .ok (.putfield 37, 3) := by decide +kernel
theorem dX4_search_22 : decode cX4_search 22 = .ok (.iconst 0, 1) := by decide +kernel
theorem dX4_search_23 : decode cX4_search 23 = .ok (.istore 5, 2) := by decide +kernel
theorem dX4_search_25 : decode cX4_search 25 = .ok (.iload 5, 2) := by decide +kernel
theorem dX4_search_27 : decode cX4_search 27 = .ok (.iconst 2, 1) := by decide +kernel
theorem dX4_search_28 : decode cX4_search 28 = .ok (.getstatic 40, 3) := by decide +kernel
theorem dX4_search_31 : decode cX4_search 31 = .ok (.arraylength, 1) := by decide +kernel
theorem dX4_search_32 : decode cX4_search 32 = .ok (.imul, 1) := by decide +kernel
theorem dX4_search_33 : decode cX4_search 33 = .ok (.if_icmp .ge 171, 3) := by decide +kernel
theorem dX4_search_36 : decode cX4_search 36 = .ok (.aload_n 1, 1) := by decide +kernel
theorem dX4_search_37 : decode cX4_search 37 = .ok (.getstatic 40, 3) := by decide +kernel
theorem dX4_search_40 : decode cX4_search 40 = .ok (.iload 5, 2) := by decide +kernel
theorem dX4_search_42 : decode cX4_search 42 = .ok (.iconst 2, 1) := by decide +kernel
theorem dX4_search_43 : decode cX4_search 43 = .ok (.idiv, 1) := by decide +kernel
theorem dX4_search_44 : decode cX4_search 44 = .ok (.iaload, 1) := by decide +kernel
theorem dX4_search_45 : decode cX4_search 45 = .ok (.putfield 43, 3) := by decide +kernel
theorem dX4_search_48 : decode cX4_search 48 = .ok (.aload_n 1, 1) := by decide +kernel
theorem dX4_search_49 : decode cX4_search 49 = .ok (.iload 5, 2) := by decide +kernel
theorem dX4_search_51 : decode cX4_search 51 = .ok (.iconst 2, 1) := by decide +kernel
theorem dX4_search_52 : decode cX4_search 52 = .ok (.irem, 1) := by decide +kernel
theorem dX4_search_53 : decode cX4_search 53 = .ok (.iconst 1, 1) := by decide +kernel
theorem dX4_search_54 : decode cX4_search 54 = .ok (.if_icmp .ne 7, 3) := by decide +kernel
theorem dX4_search_57 : decode cX4_search 57 = .ok (.iconst 1, 1) := by decide +kernel
theorem dX4_search_58 : decode cX4_search 58 = .ok (.goto 4, 3) := by decide +kernel
theorem dX4_search_61 : decode cX4_search 61 = .ok (.iconst 0, 1) := by decide +kernel
theorem dX4_search_62 : decode cX4_search 62 = .ok (.putfield 33, 3) := by decide +kernel
theorem dX4_search_65 : decode cX4_search 65 = .ok (.aload_n 1, 1) := by decide +kernel
theorem dX4_search_66 : decode cX4_search 66 = .ok (.getfield 46, 3) := by decide +kernel
theorem dX4_search_69 : decode cX4_search 69 = .ok (.bipush (-6), 2) := by decide +kernel
theorem dX4_search_71 : decode cX4_search 71 = .ok (.if_icmp .ne 14, 3) := by decide +kernel
theorem dX4_search_74 : decode cX4_search 74 = .ok (.aload_n 1, 1) := by decide +kernel
theorem dX4_search_75 : decode cX4_search 75 = .ok (.getfield 49, 3) := by decide +kernel
theorem dX4_search_78 : decode cX4_search 78 = .ok (.aload_n 1, 1) := by decide +kernel
theorem dX4_search_79 : decode cX4_search 79 = .ok (.getfield 43, 3) := by decide +kernel
theorem dX4_search_82 : decode cX4_search 82 = .ok (.if_icmp .eq 7, 3) := by decide +kernel
theorem dX4_search_85 : decode cX4_search 85 = .ok (.iconst 1, 1) := by decide +kernel
theorem dX4_search_86 : decode cX4_search 86 = .ok (.goto 4, 3) := by decide +kernel
theorem dX4_search_89 : decode cX4_search 89 = .ok (.iconst 0, 1) := by decide +kernel
theorem dX4_search_90 : decode cX4_search 90 = .ok (.istore 6, 2) := by decide +kernel
theorem dX4_search_92 : decode cX4_search 92 = .ok (.aload_n 1, 1) := by decide +kernel
theorem dX4_search_93 : decode cX4_search 93 = .ok (.getfield 33, 3) := by decide +kernel
theorem dX4_search_96 : decode cX4_search 96 = .ok (.iload 4, 2) := by decide +kernel
theorem dX4_search_98 : decode cX4_search 98 = .ok (.if_icmp .eq 6, 3) := by decide +kernel
theorem dX4_search_101 : decode cX4_search 101 = .ok (.iinc 6 1, 3) := by decide +kernel
theorem dX4_search_104 : decode cX4_search 104 = .ok (.iconst (-1), 1) := by decide +kernel
theorem dX4_search_105 : decode cX4_search 105 = .ok (.istore 7, 2) := by decide +kernel
theorem dX4_search_107 : decode cX4_search 107 = .ok (.iload 7, 2) := by decide +kernel
theorem dX4_search_109 : decode cX4_search 109 = .ok (.aload_n 0, 1) := by decide +kernel
theorem dX4_search_110 : decode cX4_search 110 = .ok (.getfield 9, 3) := by decide +kernel
theorem dX4_search_113 : decode cX4_search 113 = .ok (.getfield 52, 3) := by decide +kernel
theorem dX4_search_116 : decode cX4_search 116 = .ok (.if_icmp .ge 82, 3) := by decide +kernel
theorem dX4_search_119 : decode cX4_search 119 = .ok (.iload 7, 2) := by decide +kernel
theorem dX4_search_121 : decode cX4_search 121 = .ok (.ifCond .ge 8, 3) := by decide +kernel
theorem dX4_search_124 : decode cX4_search 124 = .ok (.iload 6, 2) := by decide +kernel
theorem dX4_search_126 : decode cX4_search 126 = .ok (.goto 7, 3) := by decide +kernel
theorem dX4_search_129 : decode cX4_search 129 = .ok (.iload 6, 2) := by decide +kernel
theorem dX4_search_131 : decode cX4_search 131 = .ok (.iconst 1, 1) := by decide +kernel
theorem dX4_search_132 : decode cX4_search 132 = .ok (.iadd, 1) := by decide +kernel
theorem dX4_search_133 : decode cX4_search 133 = .ok (.istore 8, 2) := by decide +kernel
theorem dX4_search_135 : decode cX4_search 135 = .ok (.aload_n 0, 1) := by decide +kernel
theorem dX4_search_136 : decode cX4_search 136 = .ok (.getfield 37, 3) := by decide +kernel
theorem dX4_search_139 : decode cX4_search 139 = .ok (.bipush (-6), 2) := by decide +kernel
theorem dX4_search_141 : decode cX4_search 141 = .ok (.if_icmp .eq 15, 3) := by decide +kernel
theorem dX4_search_144 : decode cX4_search 144 = .ok (.iload 8, 2) := by decide +kernel
theorem dX4_search_146 : decode cX4_search 146 = .ok (.aload_n 0, 1) := by decide +kernel
theorem dX4_search_147 : decode cX4_search 147 = .ok (.getfield 37, 3) := by decide +kernel
theorem dX4_search_150 : decode cX4_search 150 = .ok (.if_icmp .lt 6, 3) := by decide +kernel
theorem dX4_search_153 : decode cX4_search 153 = .ok (.goto 45, 3) := by decide +kernel
theorem dX4_search_156 : decode cX4_search 156 = .ok (.aload_n 1, 1) := by decide +kernel
theorem dX4_search_157 : decode cX4_search 157 = .ok (.iload 7, 2) := by decide +kernel
theorem dX4_search_159 : decode cX4_search 159 = .ok (.ifCond .ge 7, 3) := by decide +kernel
theorem dX4_search_162 : decode cX4_search 162 = .ok (.iload_n 3, 1) := by decide +kernel
theorem dX4_search_163 : decode cX4_search 163 = .ok (.goto 9, 3) := by decide +kernel
theorem dX4_search_166 : decode cX4_search 166 = .ok (.iload_n 3, 1) := by decide +kernel
theorem dX4_search_167 : decode cX4_search 167 = .ok (.iconst 1, 1) := by decide +kernel
theorem dX4_search_168 : decode cX4_search 168 = .ok (.iload 7, 2) := by decide +kernel
theorem dX4_search_170 : decode cX4_search 170 = .ok (.ishl, 1) := by decide +kernel
theorem dX4_search_171 : decode cX4_search 171 = .ok (.ior, 1) := by decide +kernel
theorem dX4_search_172 : decode cX4_search 172 = .ok (.putfield 27, 3) := by decide +kernel
theorem dX4_search_175 : decode cX4_search 175 = .ok (.aload_n 0, 1) := by decide +kernel
theorem dX4_search_176 : decode cX4_search 176 = .ok (.iload_n 2, 1) := by decide +kernel
theorem dX4_search_177 : decode cX4_search 177 = .ok (.invokevirtual 57, 3) := by decide +kernel
theorem dX4_search_180 : decode cX4_search 180 = .ok (.ifCond .eq 12, 3) := by decide +kernel
theorem dX4_search_183 : decode cX4_search 183 = .ok (.aload_n 0, 1) := by decide +kernel
theorem dX4_search_184 : decode cX4_search 184 = .ok (.iload 8, 2) := by decide +kernel
theorem dX4_search_186 : decode cX4_search 186 = .ok (.aload_n 1, 1) := by decide +kernel
theorem dX4_search_187 : decode cX4_search 187 = .ok (.iload 7, 2) := by decide +kernel
theorem dX4_search_189 : decode cX4_search 189 = .ok (.invokevirtual 61, 3) := by decide +kernel
theorem dX4_search_192 : decode cX4_search 192 = .ok (.iinc 7 1, 3) := by decide +kernel
theorem dX4_search_195 : decode cX4_search 195 = .ok (.goto (-88), 3) := by decide +kernel
theorem dX4_search_198 : decode cX4_search 198 = .ok (.iinc 5 1, 3) := by decide +kernel
theorem dX4_search_201 : decode cX4_search 201 = .ok (.goto (-176), 3) := by decide +kernel
theorem dX4_search_204 : decode cX4_search 204 = .ok (.aload_n 1, 1) := by decide +kernel
theorem dX4_search_205 : decode cX4_search 205 = .ok (.aload_n 1, 1) := by decide +kernel
theorem dX4_search_206 : decode cX4_search 206 = .ok (.getfield 49, 3) := by decide +kernel
theorem dX4_search_209 : decode cX4_search 209 = .ok (.putfield 43, 3) := by decide +kernel
theorem dX4_search_212 : decode cX4_search 212 = .ok (.aload_n 1, 1) := by decide +kernel
theorem dX4_search_213 : decode cX4_search 213 = .ok (.iload 4, 2) := by decide +kernel
theorem dX4_search_215 : decode cX4_search 215 = .ok (.putfield 33, 3) := by decide +kernel
theorem dX4_search_218 : decode cX4_search 218 = .ok (.aload_n 1, 1) := by decide +kernel
theorem dX4_search_219 : decode cX4_search 219 = .ok (.iload_n 3, 1) := by decide +kernel
theorem dX4_search_220 : decode cX4_search 220 = .ok (.putfield 27, 3) := by decide +kernel
theorem dX4_search_223 : decode cX4_search 223 = .ok (.return_, 1) := by decide +kernel
theorem dX4_settleDue_0 : decode cX4_settleDue 0 = .ok (.iconst 0, 1) := by decide +kernel
theorem dX4_settleDue_1 : decode cX4_settleDue 1 = .ok (.istore_n 2, 1) := by decide +kernel
theorem dX4_settleDue_2 : decode cX4_settleDue 2 = .ok (.iload_n 2, 1) := by decide +kernel
theorem dX4_settleDue_3 : decode cX4_settleDue 3 = .ok (.aload_n 0, 1) := by decide +kernel
theorem dX4_settleDue_4 : decode cX4_settleDue 4 = .ok (.getfield 9, 3) := by decide +kernel
theorem dX4_settleDue_7 : decode cX4_settleDue 7 = .ok (.getfield 65, 3) := by decide +kernel
theorem dX4_settleDue_10 : decode cX4_settleDue 10 = .ok (.if_icmp .ge 50, 3) := by decide +kernel
theorem dX4_settleDue_13 : decode cX4_settleDue 13 = .ok (.aload_n 0, 1) := by decide +kernel
theorem dX4_settleDue_14 : decode cX4_settleDue 14 = .ok (.getfield 9, 3) := by decide +kernel
theorem dX4_settleDue_17 : decode cX4_settleDue 17 = .ok (.getfield 68, 3) := by decide +kernel
theorem dX4_settleDue_20 : decode cX4_settleDue 20 = .ok (.iload_n 2, 1) := by decide +kernel
theorem dX4_settleDue_21 : decode cX4_settleDue 21 = .ok (.aaload, 1) := by decide +kernel
theorem dX4_settleDue_22 : decode cX4_settleDue 22 = .ok (.astore_n 3, 1) := by decide +kernel
theorem dX4_settleDue_23 : decode cX4_settleDue 23 = .ok (.aload_n 0, 1) := by decide +kernel
theorem dX4_settleDue_24 : decode cX4_settleDue 24 = .ok (.getfield 19, 3) := by decide +kernel
theorem dX4_settleDue_27 : decode cX4_settleDue 27 = .ok (.iload_n 2, 1) := by decide +kernel
theorem dX4_settleDue_28 : decode cX4_settleDue 28 = .ok (.aload_n 3, 1) := by decide +kernel
theorem dX4_settleDue_29 : decode cX4_settleDue 29 = .ok (.getfield 72, 3) := by decide +kernel
theorem dX4_settleDue_32 : decode cX4_settleDue 32 = .ok (.bipush (-6), 2) := by decide +kernel
theorem dX4_settleDue_34 : decode cX4_settleDue 34 = .ok (.if_icmp .eq 10, 3) := by decide +kernel
theorem dX4_settleDue_37 : decode cX4_settleDue 37 = .ok (.aload_n 3, 1) := by decide +kernel
theorem dX4_settleDue_38 : decode cX4_settleDue 38 = .ok (.getfield 72, 3) := by decide +kernel
theorem dX4_settleDue_41 : decode cX4_settleDue 41 = .ok (.goto 12, 3) := by decide +kernel
theorem dX4_settleDue_44 : decode cX4_settleDue 44 = .ok (.aload_n 0, 1) := by decide +kernel
theorem dX4_settleDue_45 : decode cX4_settleDue 45 = .ok (.getfield 15, 3) := by decide +kernel
theorem dX4_settleDue_48 : decode cX4_settleDue 48 = .ok (.aload_n 3, 1) := by decide +kernel
theorem dX4_settleDue_49 : decode cX4_settleDue 49 = .ok (.iload_n 1, 1) := by decide +kernel
theorem dX4_settleDue_50 : decode cX4_settleDue 50 = .ok (.invokevirtual 77, 3) := by decide +kernel
theorem dX4_settleDue_53 : decode cX4_settleDue 53 = .ok (.iastore, 1) := by decide +kernel
theorem dX4_settleDue_54 : decode cX4_settleDue 54 = .ok (.iinc 2 1, 3) := by decide +kernel
theorem dX4_settleDue_57 : decode cX4_settleDue 57 = .ok (.goto (-55), 3) := by decide +kernel
theorem dX4_settleDue_60 : decode cX4_settleDue 60 = .ok (.return_, 1) := by decide +kernel
theorem dX4_keep_0 : decode cX4_keep 0 = .ok (.aload_n 0, 1) := by decide +kernel
theorem dX4_keep_1 : decode cX4_keep 1 = .ok (.iload_n 1, 1) := by decide +kernel
theorem dX4_keep_2 : decode cX4_keep 2 = .ok (.putfield 37, 3) := by decide +kernel
theorem dX4_keep_5 : decode cX4_keep 5 = .ok (.aload_n 0, 1) := by decide +kernel
theorem dX4_keep_6 : decode cX4_keep 6 = .ok (.aload_n 2, 1) := by decide +kernel
theorem dX4_keep_7 : decode cX4_keep 7 = .ok (.getfield 43, 3) := by decide +kernel
theorem dX4_keep_10 : decode cX4_keep 10 = .ok (.putfield 83, 3) := by decide +kernel
theorem dX4_keep_13 : decode cX4_keep 13 = .ok (.aload_n 0, 1) := by decide +kernel
theorem dX4_keep_14 : decode cX4_keep 14 = .ok (.aload_n 2, 1) := by decide +kernel
theorem dX4_keep_15 : decode cX4_keep 15 = .ok (.getfield 33, 3) := by decide +kernel
theorem dX4_keep_18 : decode cX4_keep 18 = .ok (.ifCond .eq 7, 3) := by decide +kernel
theorem dX4_keep_21 : decode cX4_keep 21 = .ok (.iconst 1, 1) := by decide +kernel
theorem dX4_keep_22 : decode cX4_keep 22 = .ok (.goto 4, 3) := by decide +kernel
theorem dX4_keep_25 : decode cX4_keep 25 = .ok (.iconst 0, 1) := by decide +kernel
theorem dX4_keep_26 : decode cX4_keep 26 = .ok (.putfield 84, 3) := by decide +kernel
theorem dX4_keep_29 : decode cX4_keep 29 = .ok (.aload_n 0, 1) := by decide +kernel
theorem dX4_keep_30 : decode cX4_keep 30 = .ok (.iload_n 3, 1) := by decide +kernel
theorem dX4_keep_31 : decode cX4_keep 31 = .ok (.ifCond .ge 8, 3) := by decide +kernel
theorem dX4_keep_34 : decode cX4_keep 34 = .ok (.bipush (-6), 2) := by decide +kernel
theorem dX4_keep_36 : decode cX4_keep 36 = .ok (.goto 4, 3) := by decide +kernel
theorem dX4_keep_39 : decode cX4_keep 39 = .ok (.iload_n 3, 1) := by decide +kernel
theorem dX4_keep_40 : decode cX4_keep 40 = .ok (.putfield 86, 3) := by decide +kernel
theorem dX4_keep_43 : decode cX4_keep 43 = .ok (.return_, 1) := by decide +kernel
theorem dX4_comesOut_0 : decode cX4_comesOut 0 = .ok (.iconst 0, 1) := by decide +kernel
theorem dX4_comesOut_1 : decode cX4_comesOut 1 = .ok (.istore_n 2, 1) := by decide +kernel
theorem dX4_comesOut_2 : decode cX4_comesOut 2 = .ok (.iload_n 2, 1) := by decide +kernel
theorem dX4_comesOut_3 : decode cX4_comesOut 3 = .ok (.aload_n 0, 1) := by decide +kernel
theorem dX4_comesOut_4 : decode cX4_comesOut 4 = .ok (.getfield 9, 3) := by decide +kernel
theorem dX4_comesOut_7 : decode cX4_comesOut 7 = .ok (.getfield 65, 3) := by decide +kernel
theorem dX4_comesOut_10 : decode cX4_comesOut 10 = .ok (.if_icmp .ge 37, 3) := by decide +kernel
theorem dX4_comesOut_13 : decode cX4_comesOut 13 = .ok (.aload_n 0, 1) := by decide +kernel
theorem dX4_comesOut_14 : decode cX4_comesOut 14 = .ok (.getfield 15, 3) := by decide +kernel
theorem dX4_comesOut_17 : decode cX4_comesOut 17 = .ok (.aload_n 0, 1) := by decide +kernel
theorem dX4_comesOut_18 : decode cX4_comesOut 18 = .ok (.getfield 9, 3) := by decide +kernel
theorem dX4_comesOut_21 : decode cX4_comesOut 21 = .ok (.getfield 68, 3) := by decide +kernel
theorem dX4_comesOut_24 : decode cX4_comesOut 24 = .ok (.iload_n 2, 1) := by decide +kernel
theorem dX4_comesOut_25 : decode cX4_comesOut 25 = .ok (.aaload, 1) := by decide +kernel
theorem dX4_comesOut_26 : decode cX4_comesOut 26 = .ok (.iload_n 1, 1) := by decide +kernel
theorem dX4_comesOut_27 : decode cX4_comesOut 27 = .ok (.invokevirtual 77, 3) := by decide +kernel
theorem dX4_comesOut_30 : decode cX4_comesOut 30 = .ok (.aload_n 0, 1) := by decide +kernel
theorem dX4_comesOut_31 : decode cX4_comesOut 31 = .ok (.getfield 19, 3) := by decide +kernel
theorem dX4_comesOut_34 : decode cX4_comesOut 34 = .ok (.iload_n 2, 1) := by decide +kernel
theorem dX4_comesOut_35 : decode cX4_comesOut 35 = .ok (.iaload, 1) := by decide +kernel
theorem dX4_comesOut_36 : decode cX4_comesOut 36 = .ok (.if_icmp .eq 5, 3) := by decide +kernel
theorem dX4_comesOut_39 : decode cX4_comesOut 39 = .ok (.iconst 0, 1) := by decide +kernel
theorem dX4_comesOut_40 : decode cX4_comesOut 40 = .ok (.ireturn, 1) := by decide +kernel
theorem dX4_comesOut_41 : decode cX4_comesOut 41 = .ok (.iinc 2 1, 3) := by decide +kernel
theorem dX4_comesOut_44 : decode cX4_comesOut 44 = .ok (.goto (-42), 3) := by decide +kernel
theorem dX4_comesOut_47 : decode cX4_comesOut 47 = .ok (.iconst 1, 1) := by decide +kernel
theorem dX4_comesOut_48 : decode cX4_comesOut 48 = .ok (.ireturn, 1) := by decide +kernel
theorem dX5_init_0 : decode cX5_init 0 = .ok (.aload_n 0, 1) := by decide +kernel
theorem dX5_init_1 : decode cX5_init 1 = .ok (.invokespecial 3, 3) := by decide +kernel
theorem dX5_init_4 : decode cX5_init 4 = .ok (.aload_n 0, 1) := by decide +kernel
theorem dX5_init_5 : decode cX5_init 5 = .ok (.bipush 60, 2) := by decide +kernel
theorem dX5_init_7 : decode cX5_init 7 = .ok (.newarray .int, 2) := by decide +kernel
theorem dX5_init_9 : decode cX5_init 9 = .ok (.putfield 9, 3) := by decide +kernel
theorem dX5_init_12 : decode cX5_init 12 = .ok (.return_, 1) := by decide +kernel
theorem dX5_add_0 : decode cX5_add 0 = .ok (.aload_n 0, 1) := by decide +kernel
theorem dX5_add_1 : decode cX5_add 1 = .ok (.getfield 15, 3) := by decide +kernel
theorem dX5_add_4 : decode cX5_add 4 = .ok (.aload_n 0, 1) := by decide +kernel
theorem dX5_add_5 : decode cX5_add 5 = .ok (.getfield 9, 3) := by decide +kernel
theorem dX5_add_8 : decode cX5_add 8 = .ok (.arraylength, 1) := by decide +kernel
theorem dX5_add_9 : decode cX5_add 9 = .ok (.if_icmp .lt 5, 3) := by decide +kernel
theorem dX5_add_12 : decode cX5_add 12 = .ok (.iconst 0, 1) := by decide +kernel
theorem dX5_add_13 : decode cX5_add 13 = .ok (.ireturn, 1) := by decide +kernel
theorem dX5_add_14 : decode cX5_add 14 = .ok (.aload_n 0, 1) := by decide +kernel
theorem dX5_add_15 : decode cX5_add 15 = .ok (.getfield 9, 3) := by decide +kernel
theorem dX5_add_18 : decode cX5_add 18 = .ok (.aload_n 0, 1) := by decide +kernel
theorem dX5_add_19 : decode cX5_add 19 = .ok (.getfield 15, 3) := by decide +kernel
theorem dX5_add_22 : decode cX5_add 22 = .ok (.iload_n 1, 1) := by decide +kernel
theorem dX5_add_23 : decode cX5_add 23 = .ok (.iastore, 1) := by decide +kernel
theorem dX5_add_24 : decode cX5_add 24 = .ok (.aload_n 0, 1) := by decide +kernel
theorem dX5_add_25 : decode cX5_add 25 = .ok (.dup, 1) := by decide +kernel
theorem dX5_add_26 : decode cX5_add 26 = .ok (.getfield 15, 3) := by decide +kernel
theorem dX5_add_29 : decode cX5_add 29 = .ok (.iconst 1, 1) := by decide +kernel
theorem dX5_add_30 : decode cX5_add 30 = .ok (.iadd, 1) := by decide +kernel
theorem dX5_add_31 : decode cX5_add 31 = .ok (.putfield 15, 3) := by decide +kernel
theorem dX5_add_34 : decode cX5_add 34 = .ok (.iconst 1, 1) := by decide +kernel
theorem dX5_add_35 : decode cX5_add 35 = .ok (.ireturn, 1) := by decide +kernel
theorem dX5_clear_0 : decode cX5_clear 0 = .ok (.aload_n 0, 1) := by decide +kernel
theorem dX5_clear_1 : decode cX5_clear 1 = .ok (.iconst 0, 1) := by decide +kernel
theorem dX5_clear_2 : decode cX5_clear 2 = .ok (.putfield 15, 3) := by decide +kernel
theorem dX5_clear_5 : decode cX5_clear 5 = .ok (.return_, 1) := by decide +kernel
theorem dX5_readInto_0 : decode cX5_readInto 0 = .ok (.aload_n 1, 1) := by decide +kernel
theorem dX5_readInto_1 : decode cX5_readInto 1 = .ok (.invokevirtual 19, 3) := by decide +kernel
theorem dX5_readInto_4 : decode cX5_readInto 4 = .ok (.aload_n 0, 1) := by decide +kernel
theorem dX5_readInto_5 : decode cX5_readInto 5 = .ok (.iconst 0, 1) := by decide +kernel
theorem dX5_readInto_6 : decode cX5_readInto 6 = .ok (.putfield 24, 3) := by decide +kernel
theorem dX5_readInto_9 : decode cX5_readInto 9 = .ok (.aload_n 0, 1) := by decide +kernel
theorem dX5_readInto_10 : decode cX5_readInto 10 = .ok (.aload_n 1, 1) := by decide +kernel
theorem dX5_readInto_11 : decode cX5_readInto 11 = .ok (.invokevirtual 27, 3) := by decide +kernel
theorem dX5_readInto_14 : decode cX5_readInto 14 = .ok (.istore_n 2, 1) := by decide +kernel
theorem dX5_readInto_15 : decode cX5_readInto 15 = .ok (.iload_n 2, 1) := by decide +kernel
theorem dX5_readInto_16 : decode cX5_readInto 16 = .ok (.ifCond .eq 18, 3) := by decide +kernel
theorem dX5_readInto_19 : decode cX5_readInto 19 = .ok (.aload_n 0, 1) := by decide +kernel
theorem dX5_readInto_20 : decode cX5_readInto 20 = .ok (.bipush 47, 2) := by decide +kernel
theorem dX5_readInto_22 : decode cX5_readInto 22 = .ok (.invokevirtual 31, 3) := by decide +kernel
theorem dX5_readInto_25 : decode cX5_readInto 25 = .ok (.ifCond .eq 9, 3) := by decide +kernel
theorem dX5_readInto_28 : decode cX5_readInto 28 = .ok (.aload_n 0, 1) := by decide +kernel
theorem dX5_readInto_29 : decode cX5_readInto 29 = .ok (.aload_n 1, 1) := by decide +kernel
theorem dX5_readInto_30 : decode cX5_readInto 30 = .ok (.invokevirtual 35, 3) := by decide +kernel
theorem dX5_readInto_33 : decode cX5_readInto 33 = .ok (.istore_n 2, 1) := by decide +kernel
theorem dX5_readInto_34 : decode cX5_readInto 34 = .ok (.iload_n 2, 1) := by decide +kernel
theorem dX5_readInto_35 : decode cX5_readInto 35 = .ok (.ifCond .eq 14, 3) := by decide +kernel
theorem dX5_readInto_38 : decode cX5_readInto 38 = .ok (.aload_n 0, 1) := by decide +kernel
theorem dX5_readInto_39 : decode cX5_readInto 39 = .ok (.getfield 24, 3) := by decide +kernel
theorem dX5_readInto_42 : decode cX5_readInto 42 = .ok (.aload_n 0, 1) := by decide +kernel
theorem dX5_readInto_43 : decode cX5_readInto 43 = .ok (.getfield 15, 3) := by decide +kernel
theorem dX5_readInto_46 : decode cX5_readInto 46 = .ok (.if_icmp .ge 8, 3) := by decide +kernel
theorem dX5_readInto_49 : decode cX5_readInto 49 = .ok (.aload_n 0, 1) := by decide +kernel
theorem dX5_readInto_50 : decode cX5_readInto 50 = .ok (.getfield 24, 3) := by decide +kernel
theorem dX5_readInto_53 : decode cX5_readInto 53 = .ok (.ireturn, 1) := by decide +kernel
theorem dX5_readInto_54 : decode cX5_readInto 54 = .ok (.aload_n 1, 1) := by decide +kernel
theorem dX5_readInto_55 : decode cX5_readInto 55 = .ok (.invokevirtual 38, 3) := by decide +kernel
theorem dX5_readInto_58 : decode cX5_readInto 58 = .ok (.bipush (-6), 2) := by decide +kernel
theorem dX5_readInto_60 : decode cX5_readInto 60 = .ok (.ireturn, 1) := by decide +kernel
theorem dX5_readCases_0 : decode cX5_readCases 0 = .ok (.aload_n 0, 1) := by decide +kernel
theorem dX5_readCases_1 : decode cX5_readCases 1 = .ok (.aload_n 1, 1) := by decide +kernel
theorem dX5_readCases_2 : decode cX5_readCases 2 = .ok (.invokevirtual 41, 3) := by decide +kernel
theorem dX5_readCases_5 : decode cX5_readCases 5 = .ok (.ifCond .ne 5, 3) := by decide +kernel
theorem dX5_readCases_8 : decode cX5_readCases 8 = .ok (.iconst 0, 1) := by decide +kernel
theorem dX5_readCases_9 : decode cX5_readCases 9 = .ok (.ireturn, 1) := by decide +kernel
theorem dX5_readCases_10 : decode cX5_readCases 10 = .ok (.iconst 1, 1) := by decide +kernel
theorem dX5_readCases_11 : decode cX5_readCases 11 = .ok (.istore_n 2, 1) := by decide +kernel
theorem dX5_readCases_12 : decode cX5_readCases 12 = .ok (.iload_n 2, 1) := by decide +kernel
theorem dX5_readCases_13 : decode cX5_readCases 13 = .ok (.bipush 6, 2) := by decide +kernel
theorem dX5_readCases_15 : decode cX5_readCases 15 = .ok (.if_icmp .ge 28, 3) := by decide +kernel
theorem dX5_readCases_18 : decode cX5_readCases 18 = .ok (.aload_n 0, 1) := by decide +kernel
theorem dX5_readCases_19 : decode cX5_readCases 19 = .ok (.bipush 124, 2) := by decide +kernel
theorem dX5_readCases_21 : decode cX5_readCases 21 = .ok (.invokevirtual 31, 3) := by decide +kernel
theorem dX5_readCases_24 : decode cX5_readCases 24 = .ok (.ifCond .eq 19, 3) := by decide +kernel
theorem dX5_readCases_27 : decode cX5_readCases 27 = .ok (.aload_n 0, 1) := by decide +kernel
theorem dX5_readCases_28 : decode cX5_readCases 28 = .ok (.aload_n 1, 1) := by decide +kernel
theorem dX5_readCases_29 : decode cX5_readCases 29 = .ok (.invokevirtual 41, 3) := by decide +kernel
theorem dX5_readCases_32 : decode cX5_readCases 32 = .ok (.ifCond .ne 5, 3) := by decide +kernel
theorem dX5_readCases_35 : decode cX5_readCases 35 = .ok (.iconst 0, 1) := by decide +kernel
theorem dX5_readCases_36 : decode cX5_readCases 36 = .ok (.ireturn, 1) := by decide +kernel
theorem dX5_readCases_37 : decode cX5_readCases 37 = .ok (.iinc 2 1, 3) := by decide +kernel
theorem dX5_readCases_40 : decode cX5_readCases 40 = .ok (.goto (-28), 3) := by decide +kernel
theorem dX5_readCases_43 : decode cX5_readCases 43 = .ok (.iconst 1, 1) := by decide +kernel
theorem dX5_readCases_44 : decode cX5_readCases 44 = .ok (.ireturn, 1) := by decide +kernel
theorem dX5_readCase_0 : decode cX5_readCase 0 = .ok (.aload_n 0, 1) := by decide +kernel
theorem dX5_readCase_1 : decode cX5_readCase 1 = .ok (.invokevirtual 44, 3) := by decide +kernel
theorem dX5_readCase_4 : decode cX5_readCase 4 = .ok (.istore_n 2, 1) := by decide +kernel
theorem dX5_readCase_5 : decode cX5_readCase 5 = .ok (.iload_n 2, 1) := by decide +kernel
theorem dX5_readCase_6 : decode cX5_readCase 6 = .ok (.bipush (-6), 2) := by decide +kernel
theorem dX5_readCase_8 : decode cX5_readCase 8 = .ok (.if_icmp .eq 12, 3) := by decide +kernel
theorem dX5_readCase_11 : decode cX5_readCase 11 = .ok (.aload_n 0, 1) := by decide +kernel
theorem dX5_readCase_12 : decode cX5_readCase 12 = .ok (.bipush 58, 2) := by decide +kernel
theorem dX5_readCase_14 : decode cX5_readCase 14 = .ok (.invokevirtual 31, 3) := by decide +kernel
theorem dX5_readCase_17 : decode cX5_readCase 17 = .ok (.ifCond .ne 5, 3) := by decide +kernel
theorem dX5_readCase_20 : decode cX5_readCase 20 = .ok (.iconst 0, 1) := by decide +kernel
theorem dX5_readCase_21 : decode cX5_readCase 21 = .ok (.ireturn, 1) := by decide +kernel
theorem dX5_readCase_22 : decode cX5_readCase 22 = .ok (.aload_n 0, 1) := by decide +kernel
theorem dX5_readCase_23 : decode cX5_readCase 23 = .ok (.bipush 64, 2) := by decide +kernel
theorem dX5_readCase_25 : decode cX5_readCase 25 = .ok (.invokevirtual 31, 3) := by decide +kernel
theorem dX5_readCase_28 : decode cX5_readCase 28 = .ok (.ifCond .eq 10, 3) := by decide +kernel
theorem dX5_readCase_31 : decode cX5_readCase 31 = .ok (.aload_n 0, 1) := by decide +kernel
theorem dX5_readCase_32 : decode cX5_readCase 32 = .ok (.invokevirtual 48, 3) := by decide +kernel
theorem dX5_readCase_35 : decode cX5_readCase 35 = .ok (.goto 7, 3) := by decide +kernel
theorem dX5_readCase_38 : decode cX5_readCase 38 = .ok (.aload_n 0, 1) := by decide +kernel
theorem dX5_readCase_39 : decode cX5_readCase 39 = .ok (.invokevirtual 51, 3) := by decide +kernel
theorem dX5_readCase_42 : decode cX5_readCase 42 = .ok (.istore_n 3, 1) := by decide +kernel
theorem dX5_readCase_43 : decode cX5_readCase 43 = .ok (.iload_n 3, 1) := by decide +kernel
theorem dX5_readCase_44 : decode cX5_readCase 44 = .ok (.bipush (-6), 2) := by decide +kernel
theorem dX5_readCase_46 : decode cX5_readCase 46 = .ok (.if_icmp .ne 5, 3) := by decide +kernel
theorem dX5_readCase_49 : decode cX5_readCase 49 = .ok (.iconst 0, 1) := by decide +kernel
theorem dX5_readCase_50 : decode cX5_readCase 50 = .ok (.ireturn, 1) := by decide +kernel
theorem dX5_readCase_51 : decode cX5_readCase 51 = .ok (.aload_n 1, 1) := by decide +kernel
theorem dX5_readCase_52 : decode cX5_readCase 52 = .ok (.iload_n 2, 1) := by decide +kernel
theorem dX5_readCase_53 : decode cX5_readCase 53 = .ok (.iload_n 3, 1) := by decide +kernel
theorem dX5_readCase_54 : decode cX5_readCase 54 = .ok (.invokevirtual 54, 3) := by decide +kernel
theorem dX5_readCase_57 : decode cX5_readCase 57 = .ok (.iconst 1, 1) := by decide +kernel
theorem dX5_readCase_58 : decode cX5_readCase 58 = .ok (.ireturn, 1) := by decide +kernel
theorem dX5_readMarks_0 : decode cX5_readMarks 0 = .ok (.aload_n 0, 1) := by decide +kernel
theorem dX5_readMarks_1 : decode cX5_readMarks 1 = .ok (.bipush 42, 2) := by decide +kernel
theorem dX5_readMarks_3 : decode cX5_readMarks 3 = .ok (.invokevirtual 31, 3) := by decide +kernel
theorem dX5_readMarks_6 : decode cX5_readMarks 6 = .ok (.ifCond .eq 5, 3) := by decide +kernel
theorem dX5_readMarks_9 : decode cX5_readMarks 9 = .ok (.iconst 0, 1) := by decide +kernel
theorem dX5_readMarks_10 : decode cX5_readMarks 10 = .ok (.ireturn, 1) := by decide +kernel
theorem dX5_readMarks_11 : decode cX5_readMarks 11 = .ok (.iconst 0, 1) := by decide +kernel
theorem dX5_readMarks_12 : decode cX5_readMarks 12 = .ok (.istore_n 1, 1) := by decide +kernel
theorem dX5_readMarks_13 : decode cX5_readMarks 13 = .ok (.bipush 97, 2) := by decide +kernel
theorem dX5_readMarks_15 : decode cX5_readMarks 15 = .ok (.istore_n 2, 1) := by decide +kernel
theorem dX5_readMarks_16 : decode cX5_readMarks 16 = .ok (.iload_n 2, 1) := by decide +kernel
theorem dX5_readMarks_17 : decode cX5_readMarks 17 = .ok (.bipush 101, 2) := by decide +kernel
theorem dX5_readMarks_19 : decode cX5_readMarks 19 = .ok (.if_icmp .gt 26, 3) := by decide +kernel
theorem dX5_readMarks_22 : decode cX5_readMarks 22 = .ok (.aload_n 0, 1) := by decide +kernel
theorem dX5_readMarks_23 : decode cX5_readMarks 23 = .ok (.iload_n 2, 1) := by decide +kernel
theorem dX5_readMarks_24 : decode cX5_readMarks 24 = .ok (.invokevirtual 31, 3) := by decide +kernel
theorem dX5_readMarks_27 : decode cX5_readMarks 27 = .ok (.ifCond .eq 12, 3) := by decide +kernel
theorem dX5_readMarks_30 : decode cX5_readMarks 30 = .ok (.iload_n 1, 1) := by decide +kernel
theorem dX5_readMarks_31 : decode cX5_readMarks 31 = .ok (.iconst 1, 1) := by decide +kernel
theorem dX5_readMarks_32 : decode cX5_readMarks 32 = .ok (.iload_n 2, 1) := by decide +kernel
theorem dX5_readMarks_33 : decode cX5_readMarks 33 = .ok (.bipush 97, 2) := by decide +kernel
theorem dX5_readMarks_35 : decode cX5_readMarks 35 = .ok (.isub, 1) := by decide +kernel
theorem dX5_readMarks_36 : decode cX5_readMarks 36 = .ok (.ishl, 1) := by decide +kernel
theorem dX5_readMarks_37 : decode cX5_readMarks 37 = .ok (.ior, 1) := by decide +kernel
theorem dX5_readMarks_38 : decode cX5_readMarks 38 = .ok (.istore_n 1, 1) := by decide +kernel
theorem dX5_readMarks_39 : decode cX5_readMarks 39 = .ok (.iinc 2 1, 3) := by decide +kernel
theorem dX5_readMarks_42 : decode cX5_readMarks 42 = .ok (.goto (-26), 3) := by decide +kernel
theorem dX5_readMarks_45 : decode cX5_readMarks 45 = .ok (.iload_n 1, 1) := by decide +kernel
theorem dX5_readMarks_46 : decode cX5_readMarks 46 = .ok (.ifCond .ne 8, 3) := by decide +kernel
theorem dX5_readMarks_49 : decode cX5_readMarks 49 = .ok (.bipush (-6), 2) := by decide +kernel
theorem dX5_readMarks_51 : decode cX5_readMarks 51 = .ok (.goto 4, 3) := by decide +kernel
theorem dX5_readMarks_54 : decode cX5_readMarks 54 = .ok (.iload_n 1, 1) := by decide +kernel
theorem dX5_readMarks_55 : decode cX5_readMarks 55 = .ok (.ireturn, 1) := by decide +kernel
theorem dX5_readLawNumber_0 : decode cX5_readLawNumber 0 = .ok (.aload_n 0, 1) := by decide +kernel
theorem dX5_readLawNumber_1 : decode cX5_readLawNumber 1 = .ok (.bipush 7, 2) := by decide +kernel
theorem dX5_readLawNumber_3 : decode cX5_readLawNumber 3 = .ok (.invokevirtual 58, 3) := by decide +kernel
theorem dX5_readLawNumber_6 : decode cX5_readLawNumber 6 = .ok (.istore_n 1, 1) := by decide +kernel
theorem dX5_readLawNumber_7 : decode cX5_readLawNumber 7 = .ok (.iload_n 1, 1) := by decide +kernel
theorem dX5_readLawNumber_8 : decode cX5_readLawNumber 8 = .ok (.bipush (-6), 2) := by decide +kernel
theorem dX5_readLawNumber_10 : decode cX5_readLawNumber 10 = .ok (.if_icmp .ne 8, 3) := by decide +kernel
theorem dX5_readLawNumber_13 : decode cX5_readLawNumber 13 = .ok (.bipush (-6), 2) := by decide +kernel
theorem dX5_readLawNumber_15 : decode cX5_readLawNumber 15 = .ok (.goto 7, 3) := by decide +kernel
theorem dX5_readLawNumber_18 : decode cX5_readLawNumber 18 = .ok (.bipush 100, 2) := by decide +kernel
theorem dX5_readLawNumber_20 : decode cX5_readLawNumber 20 = .ok (.iload_n 1, 1) := by decide +kernel
theorem dX5_readLawNumber_21 : decode cX5_readLawNumber 21 = .ok (.iadd, 1) := by decide +kernel
theorem dX5_readLawNumber_22 : decode cX5_readLawNumber 22 = .ok (.ireturn, 1) := by decide +kernel
theorem dX5_readNumber_0 : decode cX5_readNumber 0 = .ok (.aload_n 0, 1) := by decide +kernel
theorem dX5_readNumber_1 : decode cX5_readNumber 1 = .ok (.bipush 9, 2) := by decide +kernel
theorem dX5_readNumber_3 : decode cX5_readNumber 3 = .ok (.invokevirtual 58, 3) := by decide +kernel
theorem dX5_readNumber_6 : decode cX5_readNumber 6 = .ok (.istore_n 1, 1) := by decide +kernel
theorem dX5_readNumber_7 : decode cX5_readNumber 7 = .ok (.iload_n 1, 1) := by decide +kernel
theorem dX5_readNumber_8 : decode cX5_readNumber 8 = .ok (.bipush (-6), 2) := by decide +kernel
theorem dX5_readNumber_10 : decode cX5_readNumber 10 = .ok (.if_icmp .ne 6, 3) := by decide +kernel
theorem dX5_readNumber_13 : decode cX5_readNumber 13 = .ok (.bipush (-6), 2) := by decide +kernel
theorem dX5_readNumber_15 : decode cX5_readNumber 15 = .ok (.ireturn, 1) := by decide +kernel
theorem dX5_readNumber_16 : decode cX5_readNumber 16 = .ok (.aload_n 0, 1) := by decide +kernel
theorem dX5_readNumber_17 : decode cX5_readNumber 17 = .ok (.bipush 9, 2) := by decide +kernel
theorem dX5_readNumber_19 : decode cX5_readNumber 19 = .ok (.invokevirtual 58, 3) := by decide +kernel
theorem dX5_readNumber_22 : decode cX5_readNumber 22 = .ok (.istore_n 2, 1) := by decide +kernel
theorem dX5_readNumber_23 : decode cX5_readNumber 23 = .ok (.iload_n 2, 1) := by decide +kernel
theorem dX5_readNumber_24 : decode cX5_readNumber 24 = .ok (.bipush (-6), 2) := by decide +kernel
theorem dX5_readNumber_26 : decode cX5_readNumber 26 = .ok (.if_icmp .ne 7, 3) := by decide +kernel
theorem dX5_readNumber_29 : decode cX5_readNumber 29 = .ok (.iload_n 1, 1) := by decide +kernel
theorem dX5_readNumber_30 : decode cX5_readNumber 30 = .ok (.goto 9, 3) := by decide +kernel
theorem dX5_readNumber_33 : decode cX5_readNumber 33 = .ok (.bipush 10, 2) := by decide +kernel
theorem dX5_readNumber_35 : decode cX5_readNumber 35 = .ok (.iload_n 1, 1) := by decide +kernel
theorem dX5_readNumber_36 : decode cX5_readNumber 36 = .ok (.imul, 1) := by decide +kernel
theorem dX5_readNumber_37 : decode cX5_readNumber 37 = .ok (.iload_n 2, 1) := by decide +kernel
theorem dX5_readNumber_38 : decode cX5_readNumber 38 = .ok (.iadd, 1) := by decide +kernel
theorem dX5_readNumber_39 : decode cX5_readNumber 39 = .ok (.ireturn, 1) := by decide +kernel
theorem dX5_readDigit_0 : decode cX5_readDigit 0 = .ok (.aload_n 0, 1) := by decide +kernel
theorem dX5_readDigit_1 : decode cX5_readDigit 1 = .ok (.invokevirtual 62, 3) := by decide +kernel
theorem dX5_readDigit_4 : decode cX5_readDigit 4 = .ok (.bipush 48, 2) := by decide +kernel
theorem dX5_readDigit_6 : decode cX5_readDigit 6 = .ok (.isub, 1) := by decide +kernel
theorem dX5_readDigit_7 : decode cX5_readDigit 7 = .ok (.istore_n 2, 1) := by decide +kernel
theorem dX5_readDigit_8 : decode cX5_readDigit 8 = .ok (.iload_n 2, 1) := by decide +kernel
theorem dX5_readDigit_9 : decode cX5_readDigit 9 = .ok (.iconst 0, 1) := by decide +kernel
theorem dX5_readDigit_10 : decode cX5_readDigit 10 = .ok (.iload_n 1, 1) := by decide +kernel
theorem dX5_readDigit_11 : decode cX5_readDigit 11 = .ok (.invokestatic 65, 3) := by decide +kernel
theorem dX5_readDigit_14 : decode cX5_readDigit 14 = .ok (.ifCond .ne 6, 3) := by decide +kernel
theorem dX5_readDigit_17 : decode cX5_readDigit 17 = .ok (.bipush (-6), 2) := by decide +kernel
theorem dX5_readDigit_19 : decode cX5_readDigit 19 = .ok (.ireturn, 1) := by decide +kernel
theorem dX5_readDigit_20 : decode cX5_readDigit 20 = .ok (.aload_n 0, 1) := by decide +kernel
theorem dX5_readDigit_21 : decode cX5_readDigit 21 = .ok (.dup, 1) := by decide +kernel
theorem dX5_readDigit_22 : decode cX5_readDigit 22 = .ok (.getfield 24, 3) := by decide +kernel
theorem dX5_readDigit_25 : decode cX5_readDigit 25 = .ok (.iconst 1, 1) := by decide +kernel
theorem dX5_readDigit_26 : decode cX5_readDigit 26 = .ok (.iadd, 1) := by decide +kernel
theorem dX5_readDigit_27 : decode cX5_readDigit 27 = .ok (.putfield 24, 3) := by decide +kernel
theorem dX5_readDigit_30 : decode cX5_readDigit 30 = .ok (.iload_n 2, 1) := by decide +kernel
theorem dX5_readDigit_31 : decode cX5_readDigit 31 = .ok (.ireturn, 1) := by decide +kernel
theorem dX5_readWords_0 : decode cX5_readWords 0 = .ok (.iconst 0, 1) := by decide +kernel
theorem dX5_readWords_1 : decode cX5_readWords 1 = .ok (.istore_n 2, 1) := by decide +kernel
theorem dX5_readWords_2 : decode cX5_readWords 2 = .ok (.iconst 0, 1) := by decide +kernel
theorem dX5_readWords_3 : decode cX5_readWords 3 = .ok (.istore_n 3, 1) := by decide +kernel
theorem dX5_readWords_4 : decode cX5_readWords 4 = .ok (.iload_n 3, 1) := by decide +kernel
theorem dX5_readWords_5 : decode cX5_readWords 5 = .ok (.bipush 60, 2) := by decide +kernel
theorem dX5_readWords_7 : decode cX5_readWords 7 = .ok (.if_icmp .ge 35, 3) := by decide +kernel
theorem dX5_readWords_10 : decode cX5_readWords 10 = .ok (.aload_n 0, 1) := by decide +kernel
theorem dX5_readWords_11 : decode cX5_readWords 11 = .ok (.aload_n 1, 1) := by decide +kernel
theorem dX5_readWords_12 : decode cX5_readWords 12 = .ok (.iload_n 2, 1) := by decide +kernel
theorem dX5_readWords_13 : decode cX5_readWords 13 = .ok (.invokevirtual 69, 3) := by decide +kernel
theorem dX5_readWords_16 : decode cX5_readWords 16 = .ok (.istore_n 2, 1) := by decide +kernel
theorem dX5_readWords_17 : decode cX5_readWords 17 = .ok (.iload_n 2, 1) := by decide +kernel
theorem dX5_readWords_18 : decode cX5_readWords 18 = .ok (.bipush (-6), 2) := by decide +kernel
theorem dX5_readWords_20 : decode cX5_readWords 20 = .ok (.if_icmp .ne 5, 3) := by decide +kernel
theorem dX5_readWords_23 : decode cX5_readWords 23 = .ok (.iconst 0, 1) := by decide +kernel
theorem dX5_readWords_24 : decode cX5_readWords 24 = .ok (.ireturn, 1) := by decide +kernel
theorem dX5_readWords_25 : decode cX5_readWords 25 = .ok (.aload_n 0, 1) := by decide +kernel
theorem dX5_readWords_26 : decode cX5_readWords 26 = .ok (.bipush 44, 2) := by decide +kernel
theorem dX5_readWords_28 : decode cX5_readWords 28 = .ok (.invokevirtual 31, 3) := by decide +kernel
theorem dX5_readWords_31 : decode cX5_readWords 31 = .ok (.ifCond .ne 5, 3) := by decide +kernel
theorem dX5_readWords_34 : decode cX5_readWords 34 = .ok (.iconst 1, 1) := by decide +kernel
theorem dX5_readWords_35 : decode cX5_readWords 35 = .ok (.ireturn, 1) := by decide +kernel
theorem dX5_readWords_36 : decode cX5_readWords 36 = .ok (.iinc 3 1, 3) := by decide +kernel
theorem dX5_readWords_39 : decode cX5_readWords 39 = .ok (.goto (-35), 3) := by decide +kernel
theorem dX5_readWords_42 : decode cX5_readWords 42 = .ok (.iconst 0, 1) := by decide +kernel
theorem dX5_readWords_43 : decode cX5_readWords 43 = .ok (.ireturn, 1) := by decide +kernel
theorem dX5_readWord_0 : decode cX5_readWord 0 = .ok (.iload_n 2, 1) := by decide +kernel
theorem dX5_readWord_1 : decode cX5_readWord 1 = .ok (.iconst 1, 1) := by decide +kernel
theorem dX5_readWord_2 : decode cX5_readWord 2 = .ok (.if_icmp .ge 34, 3) := by decide +kernel
theorem dX5_readWord_5 : decode cX5_readWord 5 = .ok (.aload_n 0, 1) := by decide +kernel
theorem dX5_readWord_6 : decode cX5_readWord 6 = .ok (.invokevirtual 62, 3) := by decide +kernel
theorem dX5_readWord_9 : decode cX5_readWord 9 = .ok (.bipush 110, 2) := by decide +kernel
theorem dX5_readWord_11 : decode cX5_readWord 11 = .ok (.bipush 104, 2) := by decide +kernel
theorem dX5_readWord_13 : decode cX5_readWord 13 = .ok (.bipush 97, 2) := by decide +kernel
theorem dX5_readWord_15 : decode cX5_readWord 15 = .ok (.invokestatic 73, 3) := by decide +kernel
theorem dX5_readWord_18 : decode cX5_readWord 18 = .ok (.ifCond .eq 18, 3) := by decide +kernel
theorem dX5_readWord_21 : decode cX5_readWord 21 = .ok (.aload_n 0, 1) := by decide +kernel
theorem dX5_readWord_22 : decode cX5_readWord 22 = .ok (.aload_n 1, 1) := by decide +kernel
theorem dX5_readWord_23 : decode cX5_readWord 23 = .ok (.invokevirtual 77, 3) := by decide +kernel
theorem dX5_readWord_26 : decode cX5_readWord 26 = .ok (.ifCond .eq 7, 3) := by decide +kernel
theorem dX5_readWord_29 : decode cX5_readWord 29 = .ok (.iconst 1, 1) := by decide +kernel
theorem dX5_readWord_30 : decode cX5_readWord 30 = .ok (.goto 5, 3) := by decide +kernel
theorem dX5_readWord_33 : decode cX5_readWord 33 = .ok (.bipush (-6), 2) := by decide +kernel
theorem dX5_readWord_35 : decode cX5_readWord 35 = .ok (.ireturn, 1) := by decide +kernel
theorem dX5_readWord_36 : decode cX5_readWord 36 = .ok (.iload_n 2, 1) := by decide +kernel
theorem dX5_readWord_37 : decode cX5_readWord 37 = .ok (.iconst 2, 1) := by decide +kernel
theorem dX5_readWord_38 : decode cX5_readWord 38 = .ok (.if_icmp .ge 19, 3) := by decide +kernel
theorem dX5_readWord_41 : decode cX5_readWord 41 = .ok (.aload_n 0, 1) := by decide +kernel
theorem dX5_readWord_42 : decode cX5_readWord 42 = .ok (.bipush 119, 2) := by decide +kernel
theorem dX5_readWord_44 : decode cX5_readWord 44 = .ok (.invokevirtual 31, 3) := by decide +kernel
theorem dX5_readWord_47 : decode cX5_readWord 47 = .ok (.ifCond .eq 10, 3) := by decide +kernel
theorem dX5_readWord_50 : decode cX5_readWord 50 = .ok (.aload_n 1, 1) := by decide +kernel
theorem dX5_readWord_51 : decode cX5_readWord 51 = .ok (.iconst 1, 1) := by decide +kernel
theorem dX5_readWord_52 : decode cX5_readWord 52 = .ok (.putfield 80, 3) := by decide +kernel
theorem dX5_readWord_55 : decode cX5_readWord 55 = .ok (.iconst 2, 1) := by decide +kernel
theorem dX5_readWord_56 : decode cX5_readWord 56 = .ok (.ireturn, 1) := by decide +kernel
theorem dX5_readWord_57 : decode cX5_readWord 57 = .ok (.iload_n 2, 1) := by decide +kernel
theorem dX5_readWord_58 : decode cX5_readWord 58 = .ok (.iconst 3, 1) := by decide +kernel
theorem dX5_readWord_59 : decode cX5_readWord 59 = .ok (.if_icmp .ge 27, 3) := by decide +kernel
theorem dX5_readWord_62 : decode cX5_readWord 62 = .ok (.aload_n 0, 1) := by decide +kernel
theorem dX5_readWord_63 : decode cX5_readWord 63 = .ok (.bipush 116, 2) := by decide +kernel
theorem dX5_readWord_65 : decode cX5_readWord 65 = .ok (.invokevirtual 31, 3) := by decide +kernel
theorem dX5_readWord_68 : decode cX5_readWord 68 = .ok (.ifCond .eq 18, 3) := by decide +kernel
theorem dX5_readWord_71 : decode cX5_readWord 71 = .ok (.aload_n 0, 1) := by decide +kernel
theorem dX5_readWord_72 : decode cX5_readWord 72 = .ok (.aload_n 1, 1) := by decide +kernel
theorem dX5_readWord_73 : decode cX5_readWord 73 = .ok (.invokevirtual 84, 3) := by decide +kernel
theorem dX5_readWord_76 : decode cX5_readWord 76 = .ok (.ifCond .eq 7, 3) := by decide +kernel
theorem dX5_readWord_79 : decode cX5_readWord 79 = .ok (.iconst 3, 1) := by decide +kernel
theorem dX5_readWord_80 : decode cX5_readWord 80 = .ok (.goto 5, 3) := by decide +kernel
theorem dX5_readWord_83 : decode cX5_readWord 83 = .ok (.bipush (-6), 2) := by decide +kernel
theorem dX5_readWord_85 : decode cX5_readWord 85 = .ok (.ireturn, 1) := by decide +kernel
theorem dX5_readWord_86 : decode cX5_readWord 86 = .ok (.aload_n 0, 1) := by decide +kernel
theorem dX5_readWord_87 : decode cX5_readWord 87 = .ok (.bipush 117, 2) := by decide +kernel
theorem dX5_readWord_89 : decode cX5_readWord 89 = .ok (.invokevirtual 31, 3) := by decide +kernel
theorem dX5_readWord_92 : decode cX5_readWord 92 = .ok (.ifCond .ne 6, 3) := by decide +kernel
theorem dX5_readWord_95 : decode cX5_readWord 95 = .ok (.bipush (-6), 2) := by decide +kernel
theorem dX5_readWord_97 : decode cX5_readWord 97 = .ok (.ireturn, 1) := by decide +kernel
theorem dX5_readWord_98 : decode cX5_readWord 98 = .ok (.aload_n 0, 1) := by decide +kernel
theorem dX5_readWord_99 : decode cX5_readWord 99 = .ok (.bipush 7, 2) := by decide +kernel
theorem dX5_readWord_101 : decode cX5_readWord 101 = .ok (.invokevirtual 58, 3) := by decide +kernel
theorem dX5_readWord_104 : decode cX5_readWord 104 = .ok (.istore_n 3, 1) := by decide +kernel
theorem dX5_readWord_105 : decode cX5_readWord 105 = .ok (.iload_n 3, 1) := by decide +kernel
theorem dX5_readWord_106 : decode cX5_readWord 106 = .ok (.bipush (-6), 2) := by decide +kernel
theorem dX5_readWord_108 : decode cX5_readWord 108 = .ok (.if_icmp .ne 6, 3) := by decide +kernel
theorem dX5_readWord_111 : decode cX5_readWord 111 = .ok (.bipush (-6), 2) := by decide +kernel
theorem dX5_readWord_113 : decode cX5_readWord 113 = .ok (.ireturn, 1) := by decide +kernel
theorem dX5_readWord_114 : decode cX5_readWord 114 = .ok (.aload_n 1, 1) := by decide +kernel
theorem dX5_readWord_115 : decode cX5_readWord 115 = .ok (.dup, 1) := by decide +kernel
theorem dX5_readWord_116 : decode cX5_readWord 116 = .ok (.getfield 87, 3) := by decide +kernel
theorem dX5_readWord_119 : decode cX5_readWord 119 = .ok (.iconst 1, 1) := by decide +kernel
theorem dX5_readWord_120 : decode cX5_readWord 120 = .ok (.iload_n 3, 1) := by decide +kernel
theorem dX5_readWord_121 : decode cX5_readWord 121 = .ok (.ishl, 1) := by decide +kernel
theorem dX5_readWord_122 : decode cX5_readWord 122 = .ok (.ior, 1) := by decide +kernel
theorem dX5_readWord_123 : decode cX5_readWord 123 = .ok (.putfield 87, 3) := by decide +kernel
theorem dX5_readWord_126 : decode cX5_readWord 126 = .ok (.iconst 3, 1) := by decide +kernel
theorem dX5_readWord_127 : decode cX5_readWord 127 = .ok (.ireturn, 1) := by decide +kernel
theorem dX5_readTime_0 : decode cX5_readTime 0 = .ok (.aload_n 1, 1) := by decide +kernel
theorem dX5_readTime_1 : decode cX5_readTime 1 = .ok (.aload_n 0, 1) := by decide +kernel
theorem dX5_readTime_2 : decode cX5_readTime 2 = .ok (.invokevirtual 62, 3) := by decide +kernel
theorem dX5_readTime_5 : decode cX5_readTime 5 = .ok (.putfield 90, 3) := by decide +kernel
theorem dX5_readTime_8 : decode cX5_readTime 8 = .ok (.aload_n 1, 1) := by decide +kernel
theorem dX5_readTime_9 : decode cX5_readTime 9 = .ok (.aload_n 1, 1) := by decide +kernel
theorem dX5_readTime_10 : decode cX5_readTime 10 = .ok (.getfield 90, 3) := by decide +kernel
theorem dX5_readTime_13 : decode cX5_readTime 13 = .ok (.putfield 93, 3) := by decide +kernel
theorem dX5_readTime_16 : decode cX5_readTime 16 = .ok (.aload_n 0, 1) := by decide +kernel
theorem dX5_readTime_17 : decode cX5_readTime 17 = .ok (.dup, 1) := by decide +kernel
theorem dX5_readTime_18 : decode cX5_readTime 18 = .ok (.getfield 24, 3) := by decide +kernel
theorem dX5_readTime_21 : decode cX5_readTime 21 = .ok (.iconst 1, 1) := by decide +kernel
theorem dX5_readTime_22 : decode cX5_readTime 22 = .ok (.iadd, 1) := by decide +kernel
theorem dX5_readTime_23 : decode cX5_readTime 23 = .ok (.putfield 24, 3) := by decide +kernel
theorem dX5_readTime_26 : decode cX5_readTime 26 = .ok (.aload_n 0, 1) := by decide +kernel
theorem dX5_readTime_27 : decode cX5_readTime 27 = .ok (.bipush 63, 2) := by decide +kernel
theorem dX5_readTime_29 : decode cX5_readTime 29 = .ok (.invokevirtual 31, 3) := by decide +kernel
theorem dX5_readTime_32 : decode cX5_readTime 32 = .ok (.ifCond .ne 5, 3) := by decide +kernel
theorem dX5_readTime_35 : decode cX5_readTime 35 = .ok (.iconst 1, 1) := by decide +kernel
theorem dX5_readTime_36 : decode cX5_readTime 36 = .ok (.ireturn, 1) := by decide +kernel
theorem dX5_readTime_37 : decode cX5_readTime 37 = .ok (.aload_n 0, 1) := by decide +kernel
theorem dX5_readTime_38 : decode cX5_readTime 38 = .ok (.invokevirtual 62, 3) := by decide +kernel
theorem dX5_readTime_41 : decode cX5_readTime 41 = .ok (.bipush 110, 2) := by decide +kernel
theorem dX5_readTime_43 : decode cX5_readTime 43 = .ok (.bipush 104, 2) := by decide +kernel
theorem dX5_readTime_45 : decode cX5_readTime 45 = .ok (.bipush 97, 2) := by decide +kernel
theorem dX5_readTime_47 : decode cX5_readTime 47 = .ok (.invokestatic 73, 3) := by decide +kernel
theorem dX5_readTime_50 : decode cX5_readTime 50 = .ok (.ifCond .eq 14, 3) := by decide +kernel
theorem dX5_readTime_53 : decode cX5_readTime 53 = .ok (.aload_n 0, 1) := by decide +kernel
theorem dX5_readTime_54 : decode cX5_readTime 54 = .ok (.invokevirtual 62, 3) := by decide +kernel
theorem dX5_readTime_57 : decode cX5_readTime 57 = .ok (.aload_n 1, 1) := by decide +kernel
theorem dX5_readTime_58 : decode cX5_readTime 58 = .ok (.getfield 90, 3) := by decide +kernel
theorem dX5_readTime_61 : decode cX5_readTime 61 = .ok (.if_icmp .ne 5, 3) := by decide +kernel
theorem dX5_readTime_64 : decode cX5_readTime 64 = .ok (.iconst 0, 1) := by decide +kernel
theorem dX5_readTime_65 : decode cX5_readTime 65 = .ok (.ireturn, 1) := by decide +kernel
theorem dX5_readTime_66 : decode cX5_readTime 66 = .ok (.aload_n 1, 1) := by decide +kernel
theorem dX5_readTime_67 : decode cX5_readTime 67 = .ok (.aload_n 0, 1) := by decide +kernel
theorem dX5_readTime_68 : decode cX5_readTime 68 = .ok (.invokevirtual 62, 3) := by decide +kernel
theorem dX5_readTime_71 : decode cX5_readTime 71 = .ok (.putfield 96, 3) := by decide +kernel
theorem dX5_readTime_74 : decode cX5_readTime 74 = .ok (.aload_n 0, 1) := by decide +kernel
theorem dX5_readTime_75 : decode cX5_readTime 75 = .ok (.dup, 1) := by decide +kernel
theorem dX5_readTime_76 : decode cX5_readTime 76 = .ok (.getfield 24, 3) := by decide +kernel
theorem dX5_readTime_79 : decode cX5_readTime 79 = .ok (.iconst 1, 1) := by decide +kernel
theorem dX5_readTime_80 : decode cX5_readTime 80 = .ok (.iadd, 1) := by decide +kernel
theorem dX5_readTime_81 : decode cX5_readTime 81 = .ok (.putfield 24, 3) := by decide +kernel
theorem dX5_readTime_84 : decode cX5_readTime 84 = .ok (.iconst 1, 1) := by decide +kernel
theorem dX5_readTime_85 : decode cX5_readTime 85 = .ok (.ireturn, 1) := by decide +kernel
theorem dX5_readTerm_0 : decode cX5_readTerm 0 = .ok (.aload_n 1, 1) := by decide +kernel
theorem dX5_readTerm_1 : decode cX5_readTerm 1 = .ok (.aload_n 0, 1) := by decide +kernel
theorem dX5_readTerm_2 : decode cX5_readTerm 2 = .ok (.invokevirtual 51, 3) := by decide +kernel
theorem dX5_readTerm_5 : decode cX5_readTerm 5 = .ok (.putfield 99, 3) := by decide +kernel
theorem dX5_readTerm_8 : decode cX5_readTerm 8 = .ok (.aload_n 1, 1) := by decide +kernel
theorem dX5_readTerm_9 : decode cX5_readTerm 9 = .ok (.getfield 99, 3) := by decide +kernel
theorem dX5_readTerm_12 : decode cX5_readTerm 12 = .ok (.bipush (-6), 2) := by decide +kernel
theorem dX5_readTerm_14 : decode cX5_readTerm 14 = .ok (.if_icmp .eq 19, 3) := by decide +kernel
theorem dX5_readTerm_17 : decode cX5_readTerm 17 = .ok (.aload_n 0, 1) := by decide +kernel
theorem dX5_readTerm_18 : decode cX5_readTerm 18 = .ok (.invokevirtual 62, 3) := by decide +kernel
theorem dX5_readTerm_21 : decode cX5_readTerm 21 = .ok (.bipush 99, 2) := by decide +kernel
theorem dX5_readTerm_23 : decode cX5_readTerm 23 = .ok (.bipush 98, 2) := by decide +kernel
theorem dX5_readTerm_25 : decode cX5_readTerm 25 = .ok (.bipush 108, 2) := by decide +kernel
theorem dX5_readTerm_27 : decode cX5_readTerm 27 = .ok (.invokestatic 73, 3) := by decide +kernel
theorem dX5_readTerm_30 : decode cX5_readTerm 30 = .ok (.ifCond .ne 5, 3) := by decide +kernel
theorem dX5_readTerm_33 : decode cX5_readTerm 33 = .ok (.iconst 0, 1) := by decide +kernel
theorem dX5_readTerm_34 : decode cX5_readTerm 34 = .ok (.ireturn, 1) := by decide +kernel
theorem dX5_readTerm_35 : decode cX5_readTerm 35 = .ok (.aload_n 1, 1) := by decide +kernel
theorem dX5_readTerm_36 : decode cX5_readTerm 36 = .ok (.aload_n 0, 1) := by decide +kernel
theorem dX5_readTerm_37 : decode cX5_readTerm 37 = .ok (.invokevirtual 62, 3) := by decide +kernel
theorem dX5_readTerm_40 : decode cX5_readTerm 40 = .ok (.putfield 102, 3) := by decide +kernel
theorem dX5_readTerm_43 : decode cX5_readTerm 43 = .ok (.aload_n 0, 1) := by decide +kernel
theorem dX5_readTerm_44 : decode cX5_readTerm 44 = .ok (.dup, 1) := by decide +kernel
theorem dX5_readTerm_45 : decode cX5_readTerm 45 = .ok (.getfield 24, 3) := by decide +kernel
theorem dX5_readTerm_48 : decode cX5_readTerm 48 = .ok (.iconst 1, 1) := by decide +kernel
theorem dX5_readTerm_49 : decode cX5_readTerm 49 = .ok (.iadd, 1) := by decide +kernel
theorem dX5_readTerm_50 : decode cX5_readTerm 50 = .ok (.putfield 24, 3) := by decide +kernel
theorem dX5_readTerm_53 : decode cX5_readTerm 53 = .ok (.aload_n 0, 1) := by decide +kernel
theorem dX5_readTerm_54 : decode cX5_readTerm 54 = .ok (.bipush 63, 2) := by decide +kernel
theorem dX5_readTerm_56 : decode cX5_readTerm 56 = .ok (.invokevirtual 31, 3) := by decide +kernel
theorem dX5_readTerm_59 : decode cX5_readTerm 59 = .ok (.ifCond .ne 5, 3) := by decide +kernel
theorem dX5_readTerm_62 : decode cX5_readTerm 62 = .ok (.iconst 1, 1) := by decide +kernel
theorem dX5_readTerm_63 : decode cX5_readTerm 63 = .ok (.ireturn, 1) := by decide +kernel
theorem dX5_readTerm_64 : decode cX5_readTerm 64 = .ok (.aload_n 0, 1) := by decide +kernel
theorem dX5_readTerm_65 : decode cX5_readTerm 65 = .ok (.invokevirtual 62, 3) := by decide +kernel
theorem dX5_readTerm_68 : decode cX5_readTerm 68 = .ok (.bipush 99, 2) := by decide +kernel
theorem dX5_readTerm_70 : decode cX5_readTerm 70 = .ok (.bipush 98, 2) := by decide +kernel
theorem dX5_readTerm_72 : decode cX5_readTerm 72 = .ok (.bipush 108, 2) := by decide +kernel
theorem dX5_readTerm_74 : decode cX5_readTerm 74 = .ok (.invokestatic 73, 3) := by decide +kernel
theorem dX5_readTerm_77 : decode cX5_readTerm 77 = .ok (.ifCond .eq 14, 3) := by decide +kernel
theorem dX5_readTerm_80 : decode cX5_readTerm 80 = .ok (.aload_n 0, 1) := by decide +kernel
theorem dX5_readTerm_81 : decode cX5_readTerm 81 = .ok (.invokevirtual 62, 3) := by decide +kernel
theorem dX5_readTerm_84 : decode cX5_readTerm 84 = .ok (.aload_n 1, 1) := by decide +kernel
theorem dX5_readTerm_85 : decode cX5_readTerm 85 = .ok (.getfield 102, 3) := by decide +kernel
theorem dX5_readTerm_88 : decode cX5_readTerm 88 = .ok (.if_icmp .ne 5, 3) := by decide +kernel
theorem dX5_readTerm_91 : decode cX5_readTerm 91 = .ok (.iconst 0, 1) := by decide +kernel
theorem dX5_readTerm_92 : decode cX5_readTerm 92 = .ok (.ireturn, 1) := by decide +kernel
theorem dX5_readTerm_93 : decode cX5_readTerm 93 = .ok (.aload_n 1, 1) := by decide +kernel
theorem dX5_readTerm_94 : decode cX5_readTerm 94 = .ok (.aload_n 0, 1) := by decide +kernel
theorem dX5_readTerm_95 : decode cX5_readTerm 95 = .ok (.invokevirtual 62, 3) := by decide +kernel
theorem dX5_readTerm_98 : decode cX5_readTerm 98 = .ok (.putfield 105, 3) := by decide +kernel
theorem dX5_readTerm_101 : decode cX5_readTerm 101 = .ok (.aload_n 0, 1) := by decide +kernel
theorem dX5_readTerm_102 : decode cX5_readTerm 102 = .ok (.dup, 1) := by decide +kernel
theorem dX5_readTerm_103 : decode cX5_readTerm 103 = .ok (.getfield 24, 3) := by decide +kernel
theorem dX5_readTerm_106 : decode cX5_readTerm 106 = .ok (.iconst 1, 1) := by decide +kernel
theorem dX5_readTerm_107 : decode cX5_readTerm 107 = .ok (.iadd, 1) := by decide +kernel
theorem dX5_readTerm_108 : decode cX5_readTerm 108 = .ok (.putfield 24, 3) := by decide +kernel
theorem dX5_readTerm_111 : decode cX5_readTerm 111 = .ok (.iconst 1, 1) := by decide +kernel
theorem dX5_readTerm_112 : decode cX5_readTerm 112 = .ok (.ireturn, 1) := by decide +kernel
theorem dX5_takes_0 : decode cX5_takes 0 = .ok (.aload_n 0, 1) := by decide +kernel
theorem dX5_takes_1 : decode cX5_takes 1 = .ok (.invokevirtual 62, 3) := by decide +kernel
theorem dX5_takes_4 : decode cX5_takes 4 = .ok (.iload_n 1, 1) := by decide +kernel
theorem dX5_takes_5 : decode cX5_takes 5 = .ok (.if_icmp .eq 5, 3) := by decide +kernel
theorem dX5_takes_8 : decode cX5_takes 8 = .ok (.iconst 0, 1) := by decide +kernel
theorem dX5_takes_9 : decode cX5_takes 9 = .ok (.ireturn, 1) := by decide +kernel
theorem dX5_takes_10 : decode cX5_takes 10 = .ok (.aload_n 0, 1) := by decide +kernel
theorem dX5_takes_11 : decode cX5_takes 11 = .ok (.dup, 1) := by decide +kernel
theorem dX5_takes_12 : decode cX5_takes 12 = .ok (.getfield 24, 3) := by decide +kernel
theorem dX5_takes_15 : decode cX5_takes 15 = .ok (.iconst 1, 1) := by decide +kernel
theorem dX5_takes_16 : decode cX5_takes 16 = .ok (.iadd, 1) := by decide +kernel
theorem dX5_takes_17 : decode cX5_takes 17 = .ok (.putfield 24, 3) := by decide +kernel
theorem dX5_takes_20 : decode cX5_takes 20 = .ok (.iconst 1, 1) := by decide +kernel
theorem dX5_takes_21 : decode cX5_takes 21 = .ok (.ireturn, 1) := by decide +kernel
theorem dX5_next_0 : decode cX5_next 0 = .ok (.aload_n 0, 1) := by decide +kernel
theorem dX5_next_1 : decode cX5_next 1 = .ok (.getfield 24, 3) := by decide +kernel
theorem dX5_next_4 : decode cX5_next 4 = .ok (.aload_n 0, 1) := by decide +kernel
theorem dX5_next_5 : decode cX5_next 5 = .ok (.getfield 15, 3) := by decide +kernel
theorem dX5_next_8 : decode cX5_next 8 = .ok (.if_icmp .ge 15, 3) := by decide +kernel
theorem dX5_next_11 : decode cX5_next 11 = .ok (.aload_n 0, 1) := by decide +kernel
theorem dX5_next_12 : decode cX5_next 12 = .ok (.getfield 9, 3) := by decide +kernel
theorem dX5_next_15 : decode cX5_next 15 = .ok (.aload_n 0, 1) := by decide +kernel
theorem dX5_next_16 : decode cX5_next 16 = .ok (.getfield 24, 3) := by decide +kernel
theorem dX5_next_19 : decode cX5_next 19 = .ok (.iaload, 1) := by decide +kernel
theorem dX5_next_20 : decode cX5_next 20 = .ok (.goto 4, 3) := by decide +kernel
theorem dX5_next_23 : decode cX5_next 23 = .ok (.iconst (-1), 1) := by decide +kernel
theorem dX5_next_24 : decode cX5_next 24 = .ok (.ireturn, 1) := by decide +kernel
theorem dX5_isOneOf_0 : decode cX5_isOneOf 0 = .ok (.iload_n 0, 1) := by decide +kernel
theorem dX5_isOneOf_1 : decode cX5_isOneOf 1 = .ok (.iload_n 1, 1) := by decide +kernel
theorem dX5_isOneOf_2 : decode cX5_isOneOf 2 = .ok (.if_icmp .eq 13, 3) := by decide +kernel
theorem dX5_isOneOf_5 : decode cX5_isOneOf 5 = .ok (.iload_n 0, 1) := by decide +kernel
theorem dX5_isOneOf_6 : decode cX5_isOneOf 6 = .ok (.iload_n 2, 1) := by decide +kernel
theorem dX5_isOneOf_7 : decode cX5_isOneOf 7 = .ok (.if_icmp .eq 8, 3) := by decide +kernel
theorem dX5_isOneOf_10 : decode cX5_isOneOf 10 = .ok (.iload_n 0, 1) := by decide +kernel
theorem dX5_isOneOf_11 : decode cX5_isOneOf 11 = .ok (.iload_n 3, 1) := by decide +kernel
theorem dX5_isOneOf_12 : decode cX5_isOneOf 12 = .ok (.if_icmp .ne 7, 3) := by decide +kernel
theorem dX5_isOneOf_15 : decode cX5_isOneOf 15 = .ok (.iconst 1, 1) := by decide +kernel
theorem dX5_isOneOf_16 : decode cX5_isOneOf 16 = .ok (.goto 4, 3) := by decide +kernel
theorem dX5_isOneOf_19 : decode cX5_isOneOf 19 = .ok (.iconst 0, 1) := by decide +kernel
theorem dX5_isOneOf_20 : decode cX5_isOneOf 20 = .ok (.ireturn, 1) := by decide +kernel
theorem dX6_init_0 : decode cX6_init 0 = .ok (.aload_n 0, 1) := by decide +kernel
theorem dX6_init_1 : decode cX6_init 1 = .ok (.invokespecial 3, 3) := by decide +kernel
theorem dX6_init_4 : decode cX6_init 4 = .ok (.return_, 1) := by decide +kernel
theorem dX6_begin_0 : decode cX6_begin 0 = .ok (.aload_n 0, 1) := by decide +kernel
theorem dX6_begin_1 : decode cX6_begin 1 = .ok (.iload_n 1, 1) := by decide +kernel
theorem dX6_begin_2 : decode cX6_begin 2 = .ok (.putfield 9, 3) := by decide +kernel
theorem dX6_begin_5 : decode cX6_begin 5 = .ok (.aload_n 0, 1) := by decide +kernel
theorem dX6_begin_6 : decode cX6_begin 6 = .ok (.bipush (-6), 2) := by decide +kernel
theorem dX6_begin_8 : decode cX6_begin 8 = .ok (.putfield 15, 3) := by decide +kernel
theorem dX6_begin_11 : decode cX6_begin 11 = .ok (.aload_n 0, 1) := by decide +kernel
theorem dX6_begin_12 : decode cX6_begin 12 = .ok (.bipush (-6), 2) := by decide +kernel
theorem dX6_begin_14 : decode cX6_begin 14 = .ok (.putfield 18, 3) := by decide +kernel
theorem dX6_begin_17 : decode cX6_begin 17 = .ok (.aload_n 0, 1) := by decide +kernel
theorem dX6_begin_18 : decode cX6_begin 18 = .ok (.iload_n 2, 1) := by decide +kernel
theorem dX6_begin_19 : decode cX6_begin 19 = .ok (.putfield 21, 3) := by decide +kernel
theorem dX6_begin_22 : decode cX6_begin 22 = .ok (.aload_n 0, 1) := by decide +kernel
theorem dX6_begin_23 : decode cX6_begin 23 = .ok (.bipush (-6), 2) := by decide +kernel
theorem dX6_begin_25 : decode cX6_begin 25 = .ok (.putfield 24, 3) := by decide +kernel
theorem dX6_begin_28 : decode cX6_begin 28 = .ok (.return_, 1) := by decide +kernel
theorem dX6_copyFrom_0 : decode cX6_copyFrom 0 = .ok (.aload_n 0, 1) := by decide +kernel
theorem dX6_copyFrom_1 : decode cX6_copyFrom 1 = .ok (.aload_n 1, 1) := by decide +kernel
theorem dX6_copyFrom_2 : decode cX6_copyFrom 2 = .ok (.getfield 9, 3) := by decide +kernel
theorem dX6_copyFrom_5 : decode cX6_copyFrom 5 = .ok (.putfield 9, 3) := by decide +kernel
theorem dX6_copyFrom_8 : decode cX6_copyFrom 8 = .ok (.aload_n 0, 1) := by decide +kernel
theorem dX6_copyFrom_9 : decode cX6_copyFrom 9 = .ok (.aload_n 1, 1) := by decide +kernel
theorem dX6_copyFrom_10 : decode cX6_copyFrom 10 = .ok (.getfield 15, 3) := by decide +kernel
theorem dX6_copyFrom_13 : decode cX6_copyFrom 13 = .ok (.putfield 15, 3) := by decide +kernel
theorem dX6_copyFrom_16 : decode cX6_copyFrom 16 = .ok (.aload_n 0, 1) := by decide +kernel
theorem dX6_copyFrom_17 : decode cX6_copyFrom 17 = .ok (.aload_n 1, 1) := by decide +kernel
theorem dX6_copyFrom_18 : decode cX6_copyFrom 18 = .ok (.getfield 18, 3) := by decide +kernel
theorem dX6_copyFrom_21 : decode cX6_copyFrom 21 = .ok (.putfield 18, 3) := by decide +kernel
theorem dX6_copyFrom_24 : decode cX6_copyFrom 24 = .ok (.aload_n 0, 1) := by decide +kernel
theorem dX6_copyFrom_25 : decode cX6_copyFrom 25 = .ok (.aload_n 1, 1) := by decide +kernel
theorem dX6_copyFrom_26 : decode cX6_copyFrom 26 = .ok (.getfield 21, 3) := by decide +kernel
theorem dX6_copyFrom_29 : decode cX6_copyFrom 29 = .ok (.putfield 21, 3) := by decide +kernel
theorem dX6_copyFrom_32 : decode cX6_copyFrom 32 = .ok (.aload_n 0, 1) := by decide +kernel
theorem dX6_copyFrom_33 : decode cX6_copyFrom 33 = .ok (.aload_n 1, 1) := by decide +kernel
theorem dX6_copyFrom_34 : decode cX6_copyFrom 34 = .ok (.getfield 24, 3) := by decide +kernel
theorem dX6_copyFrom_37 : decode cX6_copyFrom 37 = .ok (.putfield 24, 3) := by decide +kernel
theorem dX6_copyFrom_40 : decode cX6_copyFrom 40 = .ok (.return_, 1) := by decide +kernel
theorem dX6_dayOn_0 : decode cX6_dayOn 0 = .ok (.aload_n 0, 1) := by decide +kernel
theorem dX6_dayOn_1 : decode cX6_dayOn 1 = .ok (.getfield 18, 3) := by decide +kernel
theorem dX6_dayOn_4 : decode cX6_dayOn 4 = .ok (.bipush (-6), 2) := by decide +kernel
theorem dX6_dayOn_6 : decode cX6_dayOn 6 = .ok (.if_icmp .ne 7, 3) := by decide +kernel
theorem dX6_dayOn_9 : decode cX6_dayOn 9 = .ok (.iload_n 1, 1) := by decide +kernel
theorem dX6_dayOn_10 : decode cX6_dayOn 10 = .ok (.goto 11, 3) := by decide +kernel
theorem dX6_dayOn_13 : decode cX6_dayOn 13 = .ok (.iload_n 1, 1) := by decide +kernel
theorem dX6_dayOn_14 : decode cX6_dayOn 14 = .ok (.aload_n 0, 1) := by decide +kernel
theorem dX6_dayOn_15 : decode cX6_dayOn 15 = .ok (.getfield 18, 3) := by decide +kernel
theorem dX6_dayOn_18 : decode cX6_dayOn 18 = .ok (.invokestatic 27, 3) := by decide +kernel
theorem dX6_dayOn_21 : decode cX6_dayOn 21 = .ok (.ireturn, 1) := by decide +kernel
theorem dX7_init_0 : decode cX7_init 0 = .ok (.aload_n 0, 1) := by decide +kernel
theorem dX7_init_1 : decode cX7_init 1 = .ok (.invokespecial 3, 3) := by decide +kernel
theorem dX7_init_4 : decode cX7_init 4 = .ok (.aload_n 0, 1) := by decide +kernel
theorem dX7_init_5 : decode cX7_init 5 = .ok (.aload_n 1, 1) := by decide +kernel
theorem dX7_init_6 : decode cX7_init 6 = .ok (.putfield 9, 3) := by decide +kernel
theorem dX7_init_9 : decode cX7_init 9 = .ok (.aload_n 0, 1) := by decide +kernel
theorem dX7_init_10 : decode cX7_init 10 = .ok (.aload_n 2, 1) := by decide +kernel
theorem dX7_init_11 : decode cX7_init 11 = .ok (.putfield 15, 3) := by decide +kernel
theorem dX7_init_14 : decode cX7_init 14 = .ok (.aload_n 0, 1) := by decide +kernel
theorem dX7_init_15 : decode cX7_init 15 = .ok (.aload_n 3, 1) := by decide +kernel
theorem dX7_init_16 : decode cX7_init 16 = .ok (.putfield 19, 3) := by decide +kernel
theorem dX7_init_19 : decode cX7_init 19 = .ok (.return_, 1) := by decide +kernel
theorem dX7_count_0 : decode cX7_count 0 = .ok (.iconst 0, 1) := by decide +kernel
theorem dX7_count_1 : decode cX7_count 1 = .ok (.istore_n 1, 1) := by decide +kernel
theorem dX7_count_2 : decode cX7_count 2 = .ok (.iconst 0, 1) := by decide +kernel
theorem dX7_count_3 : decode cX7_count 3 = .ok (.istore_n 2, 1) := by decide +kernel
theorem dX7_count_4 : decode cX7_count 4 = .ok (.iload_n 2, 1) := by decide +kernel
theorem dX7_count_5 : decode cX7_count 5 = .ok (.aload_n 0, 1) := by decide +kernel
theorem dX7_count_6 : decode cX7_count 6 = .ok (.getfield 9, 3) := by decide +kernel
theorem dX7_count_9 : decode cX7_count 9 = .ok (.getfield 23, 3) := by decide +kernel
theorem dX7_count_12 : decode cX7_count 12 = .ok (.if_icmp .ge 49, 3) := by decide +kernel
theorem dX7_count_15 : decode cX7_count 15 = .ok (.aload_n 0, 1) := by decide +kernel
theorem dX7_count_16 : decode cX7_count 16 = .ok (.getfield 9, 3) := by decide +kernel
theorem dX7_count_19 : decode cX7_count 19 = .ok (.getfield 29, 3) := by decide +kernel
theorem dX7_count_22 : decode cX7_count 22 = .ok (.iload_n 2, 1) := by decide +kernel
theorem dX7_count_23 : decode cX7_count 23 = .ok (.aaload, 1) := by decide +kernel
theorem dX7_count_24 : decode cX7_count 24 = .ok (.getfield 33, 3) := by decide +kernel
theorem dX7_count_27 : decode cX7_count 27 = .ok (.bipush (-6), 2) := by decide +kernel
theorem dX7_count_29 : decode cX7_count 29 = .ok (.if_icmp .eq 6, 3) := by decide +kernel
theorem dX7_count_32 : decode cX7_count 32 = .ok (.iinc 1 1, 3) := by decide +kernel
theorem dX7_count_35 : decode cX7_count 35 = .ok (.aload_n 0, 1) := by decide +kernel
theorem dX7_count_36 : decode cX7_count 36 = .ok (.getfield 9, 3) := by decide +kernel
theorem dX7_count_39 : decode cX7_count 39 = .ok (.getfield 29, 3) := by decide +kernel
theorem dX7_count_42 : decode cX7_count 42 = .ok (.iload_n 2, 1) := by decide +kernel
theorem dX7_count_43 : decode cX7_count 43 = .ok (.aaload, 1) := by decide +kernel
theorem dX7_count_44 : decode cX7_count 44 = .ok (.getfield 38, 3) := by decide +kernel
theorem dX7_count_47 : decode cX7_count 47 = .ok (.bipush (-6), 2) := by decide +kernel
theorem dX7_count_49 : decode cX7_count 49 = .ok (.if_icmp .eq 6, 3) := by decide +kernel
theorem dX7_count_52 : decode cX7_count 52 = .ok (.iinc 1 1, 3) := by decide +kernel
theorem dX7_count_55 : decode cX7_count 55 = .ok (.iinc 2 1, 3) := by decide +kernel
theorem dX7_count_58 : decode cX7_count 58 = .ok (.goto (-54), 3) := by decide +kernel
theorem dX7_count_61 : decode cX7_count 61 = .ok (.iload_n 1, 1) := by decide +kernel
theorem dX7_count_62 : decode cX7_count 62 = .ok (.ireturn, 1) := by decide +kernel
theorem dX7_word_0 : decode cX7_word 0 = .ok (.iconst 0, 1) := by decide +kernel
theorem dX7_word_1 : decode cX7_word 1 = .ok (.istore_n 2, 1) := by decide +kernel
theorem dX7_word_2 : decode cX7_word 2 = .ok (.iconst 0, 1) := by decide +kernel
theorem dX7_word_3 : decode cX7_word 3 = .ok (.istore_n 3, 1) := by decide +kernel
theorem dX7_word_4 : decode cX7_word 4 = .ok (.iload_n 3, 1) := by decide +kernel
theorem dX7_word_5 : decode cX7_word 5 = .ok (.aload_n 0, 1) := by decide +kernel
theorem dX7_word_6 : decode cX7_word 6 = .ok (.getfield 9, 3) := by decide +kernel
theorem dX7_word_9 : decode cX7_word 9 = .ok (.getfield 23, 3) := by decide +kernel
theorem dX7_word_12 : decode cX7_word 12 = .ok (.if_icmp .ge 71, 3) := by decide +kernel
theorem dX7_word_15 : decode cX7_word 15 = .ok (.aload_n 0, 1) := by decide +kernel
theorem dX7_word_16 : decode cX7_word 16 = .ok (.getfield 9, 3) := by decide +kernel
theorem dX7_word_19 : decode cX7_word 19 = .ok (.getfield 29, 3) := by decide +kernel
theorem dX7_word_22 : decode cX7_word 22 = .ok (.iload_n 3, 1) := by decide +kernel
theorem dX7_word_23 : decode cX7_word 23 = .ok (.aaload, 1) := by decide +kernel
theorem dX7_word_24 : decode cX7_word 24 = .ok (.getfield 33, 3) := by decide +kernel
theorem dX7_word_27 : decode cX7_word 27 = .ok (.bipush (-6), 2) := by decide +kernel
theorem dX7_word_29 : decode cX7_word 29 = .ok (.if_icmp .eq 16, 3) := by decide +kernel
theorem dX7_word_32 : decode cX7_word 32 = .ok (.iload_n 2, 1) := by decide +kernel
theorem dX7_word_33 : decode cX7_word 33 = .ok (.iload_n 1, 1) := by decide +kernel
theorem dX7_word_34 : decode cX7_word 34 = .ok (.if_icmp .ne 8, 3) := by decide +kernel
theorem dX7_word_37 : decode cX7_word 37 = .ok (.bipush 10, 2) := by decide +kernel
theorem dX7_word_39 : decode cX7_word 39 = .ok (.iload_n 3, 1) := by decide +kernel
theorem dX7_word_40 : decode cX7_word 40 = .ok (.imul, 1) := by decide +kernel
theorem dX7_word_41 : decode cX7_word 41 = .ok (.ireturn, 1) := by decide +kernel
theorem dX7_word_42 : decode cX7_word 42 = .ok (.iinc 2 1, 3) := by decide +kernel
theorem dX7_word_45 : decode cX7_word 45 = .ok (.aload_n 0, 1) := by decide +kernel
theorem dX7_word_46 : decode cX7_word 46 = .ok (.getfield 9, 3) := by decide +kernel
theorem dX7_word_49 : decode cX7_word 49 = .ok (.getfield 29, 3) := by decide +kernel
theorem dX7_word_52 : decode cX7_word 52 = .ok (.iload_n 3, 1) := by decide +kernel
theorem dX7_word_53 : decode cX7_word 53 = .ok (.aaload, 1) := by decide +kernel
theorem dX7_word_54 : decode cX7_word 54 = .ok (.getfield 38, 3) := by decide +kernel
theorem dX7_word_57 : decode cX7_word 57 = .ok (.bipush (-6), 2) := by decide +kernel
theorem dX7_word_59 : decode cX7_word 59 = .ok (.if_icmp .eq 18, 3) := by decide +kernel
theorem dX7_word_62 : decode cX7_word 62 = .ok (.iload_n 2, 1) := by decide +kernel
theorem dX7_word_63 : decode cX7_word 63 = .ok (.iload_n 1, 1) := by decide +kernel
theorem dX7_word_64 : decode cX7_word 64 = .ok (.if_icmp .ne 10, 3) := by decide +kernel
theorem dX7_word_67 : decode cX7_word 67 = .ok (.bipush 10, 2) := by decide +kernel
theorem dX7_word_69 : decode cX7_word 69 = .ok (.iload_n 3, 1) := by decide +kernel
theorem dX7_word_70 : decode cX7_word 70 = .ok (.imul, 1) := by decide +kernel
theorem dX7_word_71 : decode cX7_word 71 = .ok (.iconst 1, 1) := by decide +kernel
theorem dX7_word_72 : decode cX7_word 72 = .ok (.iadd, 1) := by decide +kernel
theorem dX7_word_73 : decode cX7_word 73 = .ok (.ireturn, 1) := by decide +kernel
theorem dX7_word_74 : decode cX7_word 74 = .ok (.iinc 2 1, 3) := by decide +kernel
theorem dX7_word_77 : decode cX7_word 77 = .ok (.iinc 3 1, 3) := by decide +kernel
theorem dX7_word_80 : decode cX7_word 80 = .ok (.goto (-76), 3) := by decide +kernel
theorem dX7_word_83 : decode cX7_word 83 = .ok (.bipush (-6), 2) := by decide +kernel
theorem dX7_word_85 : decode cX7_word 85 = .ok (.ireturn, 1) := by decide +kernel
theorem dX7_timeWords_0 : decode cX7_timeWords 0 = .ok (.iconst 0, 1) := by decide +kernel
theorem dX7_timeWords_1 : decode cX7_timeWords 1 = .ok (.istore_n 1, 1) := by decide +kernel
theorem dX7_timeWords_2 : decode cX7_timeWords 2 = .ok (.iconst 0, 1) := by decide +kernel
theorem dX7_timeWords_3 : decode cX7_timeWords 3 = .ok (.istore_n 2, 1) := by decide +kernel
theorem dX7_timeWords_4 : decode cX7_timeWords 4 = .ok (.iload_n 2, 1) := by decide +kernel
theorem dX7_timeWords_5 : decode cX7_timeWords 5 = .ok (.bipush 8, 2) := by decide +kernel
theorem dX7_timeWords_7 : decode cX7_timeWords 7 = .ok (.if_icmp .ge 34, 3) := by decide +kernel
theorem dX7_timeWords_10 : decode cX7_timeWords 10 = .ok (.aload_n 0, 1) := by decide +kernel
theorem dX7_timeWords_11 : decode cX7_timeWords 11 = .ok (.iload_n 2, 1) := by decide +kernel
theorem dX7_timeWords_12 : decode cX7_timeWords 12 = .ok (.invokevirtual 41, 3) := by decide +kernel
theorem dX7_timeWords_15 : decode cX7_timeWords 15 = .ok (.istore_n 3, 1) := by decide +kernel
theorem dX7_timeWords_16 : decode cX7_timeWords 16 = .ok (.iload_n 3, 1) := by decide +kernel
theorem dX7_timeWords_17 : decode cX7_timeWords 17 = .ok (.bipush (-6), 2) := by decide +kernel
theorem dX7_timeWords_19 : decode cX7_timeWords 19 = .ok (.if_icmp .eq 16, 3) := by decide +kernel
theorem dX7_timeWords_22 : decode cX7_timeWords 22 = .ok (.iload_n 3, 1) := by decide +kernel
theorem dX7_timeWords_23 : decode cX7_timeWords 23 = .ok (.bipush 10, 2) := by decide +kernel
theorem dX7_timeWords_25 : decode cX7_timeWords 25 = .ok (.irem, 1) := by decide +kernel
theorem dX7_timeWords_26 : decode cX7_timeWords 26 = .ok (.ifCond .ne 9, 3) := by decide +kernel
theorem dX7_timeWords_29 : decode cX7_timeWords 29 = .ok (.iload_n 1, 1) := by decide +kernel
theorem dX7_timeWords_30 : decode cX7_timeWords 30 = .ok (.iconst 1, 1) := by decide +kernel
theorem dX7_timeWords_31 : decode cX7_timeWords 31 = .ok (.iload_n 2, 1) := by decide +kernel
theorem dX7_timeWords_32 : decode cX7_timeWords 32 = .ok (.ishl, 1) := by decide +kernel
theorem dX7_timeWords_33 : decode cX7_timeWords 33 = .ok (.ior, 1) := by decide +kernel
theorem dX7_timeWords_34 : decode cX7_timeWords 34 = .ok (.istore_n 1, 1) := by decide +kernel
theorem dX7_timeWords_35 : decode cX7_timeWords 35 = .ok (.iinc 2 1, 3) := by decide +kernel
theorem dX7_timeWords_38 : decode cX7_timeWords 38 = .ok (.goto (-34), 3) := by decide +kernel
theorem dX7_timeWords_41 : decode cX7_timeWords 41 = .ok (.iload_n 1, 1) := by decide +kernel
theorem dX7_timeWords_42 : decode cX7_timeWords 42 = .ok (.ireturn, 1) := by decide +kernel
theorem dX7_readBy_0 : decode cX7_readBy 0 = .ok (.iconst 0, 1) := by decide +kernel
theorem dX7_readBy_1 : decode cX7_readBy 1 = .ok (.istore_n 2, 1) := by decide +kernel
theorem dX7_readBy_2 : decode cX7_readBy 2 = .ok (.iconst 0, 1) := by decide +kernel
theorem dX7_readBy_3 : decode cX7_readBy 3 = .ok (.istore_n 3, 1) := by decide +kernel
theorem dX7_readBy_4 : decode cX7_readBy 4 = .ok (.iload_n 3, 1) := by decide +kernel
theorem dX7_readBy_5 : decode cX7_readBy 5 = .ok (.aload_n 0, 1) := by decide +kernel
theorem dX7_readBy_6 : decode cX7_readBy 6 = .ok (.getfield 9, 3) := by decide +kernel
theorem dX7_readBy_9 : decode cX7_readBy 9 = .ok (.getfield 23, 3) := by decide +kernel
theorem dX7_readBy_12 : decode cX7_readBy 12 = .ok (.if_icmp .ge 80, 3) := by decide +kernel
theorem dX7_readBy_15 : decode cX7_readBy 15 = .ok (.aload_n 0, 1) := by decide +kernel
theorem dX7_readBy_16 : decode cX7_readBy 16 = .ok (.getfield 9, 3) := by decide +kernel
theorem dX7_readBy_19 : decode cX7_readBy 19 = .ok (.getfield 29, 3) := by decide +kernel
theorem dX7_readBy_22 : decode cX7_readBy 22 = .ok (.iload_n 3, 1) := by decide +kernel
theorem dX7_readBy_23 : decode cX7_readBy 23 = .ok (.aaload, 1) := by decide +kernel
theorem dX7_readBy_24 : decode cX7_readBy 24 = .ok (.astore 4, 2) := by decide +kernel
theorem dX7_readBy_26 : decode cX7_readBy 26 = .ok (.aload 4, 2) := by decide +kernel
theorem dX7_readBy_28 : decode cX7_readBy 28 = .ok (.aload 4, 2) := by decide +kernel
theorem dX7_readBy_30 : decode cX7_readBy 30 = .ok (.getfield 45, 3) := by decide +kernel
theorem dX7_readBy_33 : decode cX7_readBy 33 = .ok (.putfield 48, 3) := by decide +kernel
theorem dX7_readBy_36 : decode cX7_readBy 36 = .ok (.aload 4, 2) := by decide +kernel
theorem dX7_readBy_38 : decode cX7_readBy 38 = .ok (.getfield 33, 3) := by decide +kernel
theorem dX7_readBy_41 : decode cX7_readBy 41 = .ok (.bipush (-6), 2) := by decide +kernel
theorem dX7_readBy_43 : decode cX7_readBy 43 = .ok (.if_icmp .eq 30, 3) := by decide +kernel
theorem dX7_readBy_46 : decode cX7_readBy 46 = .ok (.iload_n 2, 1) := by decide +kernel
theorem dX7_readBy_47 : decode cX7_readBy 47 = .ok (.bipush 8, 2) := by decide +kernel
theorem dX7_readBy_49 : decode cX7_readBy 49 = .ok (.if_icmp .ge 21, 3) := by decide +kernel
theorem dX7_readBy_52 : decode cX7_readBy 52 = .ok (.iload_n 1, 1) := by decide +kernel
theorem dX7_readBy_53 : decode cX7_readBy 53 = .ok (.iload_n 2, 1) := by decide +kernel
theorem dX7_readBy_54 : decode cX7_readBy 54 = .ok (.ishr, 1) := by decide +kernel
theorem dX7_readBy_55 : decode cX7_readBy 55 = .ok (.iconst 1, 1) := by decide +kernel
theorem dX7_readBy_56 : decode cX7_readBy 56 = .ok (.iand, 1) := by decide +kernel
theorem dX7_readBy_57 : decode cX7_readBy 57 = .ok (.ifCond .eq 13, 3) := by decide +kernel
theorem dX7_readBy_60 : decode cX7_readBy 60 = .ok (.aload 4, 2) := by decide +kernel
theorem dX7_readBy_62 : decode cX7_readBy 62 = .ok (.aload 4, 2) := by decide +kernel
theorem dX7_readBy_64 : decode cX7_readBy 64 = .ok (.getfield 33, 3) := by decide +kernel
theorem dX7_readBy_67 : decode cX7_readBy 67 = .ok (.putfield 48, 3) := by decide +kernel
theorem dX7_readBy_70 : decode cX7_readBy 70 = .ok (.iinc 2 1, 3) := by decide +kernel
theorem dX7_readBy_73 : decode cX7_readBy 73 = .ok (.aload 4, 2) := by decide +kernel
theorem dX7_readBy_75 : decode cX7_readBy 75 = .ok (.getfield 38, 3) := by decide +kernel
theorem dX7_readBy_78 : decode cX7_readBy 78 = .ok (.bipush (-6), 2) := by decide +kernel
theorem dX7_readBy_80 : decode cX7_readBy 80 = .ok (.if_icmp .eq 6, 3) := by decide +kernel
theorem dX7_readBy_83 : decode cX7_readBy 83 = .ok (.iinc 2 1, 3) := by decide +kernel
theorem dX7_readBy_86 : decode cX7_readBy 86 = .ok (.iinc 3 1, 3) := by decide +kernel
theorem dX7_readBy_89 : decode cX7_readBy 89 = .ok (.goto (-85), 3) := by decide +kernel
theorem dX7_readBy_92 : decode cX7_readBy 92 = .ok (.return_, 1) := by decide +kernel
theorem dX7_givenBy_0 : decode cX7_givenBy 0 = .ok (.aload_n 0, 1) := by decide +kernel
theorem dX7_givenBy_1 : decode cX7_givenBy 1 = .ok (.iload_n 1, 1) := by decide +kernel
theorem dX7_givenBy_2 : decode cX7_givenBy 2 = .ok (.invokevirtual 51, 3) := by decide +kernel
theorem dX7_givenBy_5 : decode cX7_givenBy 5 = .ok (.aload_n 0, 1) := by decide +kernel
theorem dX7_givenBy_6 : decode cX7_givenBy 6 = .ok (.getfield 15, 3) := by decide +kernel
theorem dX7_givenBy_9 : decode cX7_givenBy 9 = .ok (.aload_n 2, 1) := by decide +kernel
theorem dX7_givenBy_10 : decode cX7_givenBy 10 = .ok (.iload_n 3, 1) := by decide +kernel
theorem dX7_givenBy_11 : decode cX7_givenBy 11 = .ok (.invokevirtual 55, 3) := by decide +kernel
theorem dX7_givenBy_14 : decode cX7_givenBy 14 = .ok (.istore 4, 2) := by decide +kernel
theorem dX7_givenBy_16 : decode cX7_givenBy 16 = .ok (.aload_n 0, 1) := by decide +kernel
theorem dX7_givenBy_17 : decode cX7_givenBy 17 = .ok (.iconst 0, 1) := by decide +kernel
theorem dX7_givenBy_18 : decode cX7_givenBy 18 = .ok (.invokevirtual 51, 3) := by decide +kernel
theorem dX7_givenBy_21 : decode cX7_givenBy 21 = .ok (.iload 4, 2) := by decide +kernel
theorem dX7_givenBy_23 : decode cX7_givenBy 23 = .ok (.ireturn, 1) := by decide +kernel
theorem dX7_unlike_0 : decode cX7_unlike 0 = .ok (.aload_n 0, 1) := by decide +kernel
theorem dX7_unlike_1 : decode cX7_unlike 1 = .ok (.invokevirtual 61, 3) := by decide +kernel
theorem dX7_unlike_4 : decode cX7_unlike 4 = .ok (.istore_n 3, 1) := by decide +kernel
theorem dX7_unlike_5 : decode cX7_unlike 5 = .ok (.aload_n 0, 1) := by decide +kernel
theorem dX7_unlike_6 : decode cX7_unlike 6 = .ok (.getfield 19, 3) := by decide +kernel
theorem dX7_unlike_9 : decode cX7_unlike 9 = .ok (.invokevirtual 65, 3) := by decide +kernel
theorem dX7_unlike_12 : decode cX7_unlike 12 = .ok (.iconst 0, 1) := by decide +kernel
theorem dX7_unlike_13 : decode cX7_unlike 13 = .ok (.istore 4, 2) := by decide +kernel
theorem dX7_unlike_15 : decode cX7_unlike 15 = .ok (.iload 4, 2) := by decide +kernel
theorem dX7_unlike_17 : decode cX7_unlike 17 = .ok (.sipush 256, 3) := by decide +kernel
theorem dX7_unlike_20 : decode cX7_unlike 20 = .ok (.if_icmp .ge 36, 3) := by decide +kernel
theorem dX7_unlike_23 : decode cX7_unlike 23 = .ok (.iload 4, 2) := by decide +kernel
theorem dX7_unlike_25 : decode cX7_unlike 25 = .ok (.iload_n 3, 1) := by decide +kernel
theorem dX7_unlike_26 : decode cX7_unlike 26 = .ok (.iconst (-1), 1) := by decide +kernel
theorem dX7_unlike_27 : decode cX7_unlike 27 = .ok (.ixor, 1) := by decide +kernel
theorem dX7_unlike_28 : decode cX7_unlike 28 = .ok (.iand, 1) := by decide +kernel
theorem dX7_unlike_29 : decode cX7_unlike 29 = .ok (.ifCond .eq 6, 3) := by decide +kernel
theorem dX7_unlike_32 : decode cX7_unlike 32 = .ok (.goto 18, 3) := by decide +kernel
theorem dX7_unlike_35 : decode cX7_unlike 35 = .ok (.aload_n 0, 1) := by decide +kernel
theorem dX7_unlike_36 : decode cX7_unlike 36 = .ok (.getfield 19, 3) := by decide +kernel
theorem dX7_unlike_39 : decode cX7_unlike 39 = .ok (.aload_n 0, 1) := by decide +kernel
theorem dX7_unlike_40 : decode cX7_unlike 40 = .ok (.iload 4, 2) := by decide +kernel
theorem dX7_unlike_42 : decode cX7_unlike 42 = .ok (.aload_n 1, 1) := by decide +kernel
theorem dX7_unlike_43 : decode cX7_unlike 43 = .ok (.iload_n 2, 1) := by decide +kernel
theorem dX7_unlike_44 : decode cX7_unlike 44 = .ok (.invokevirtual 70, 3) := by decide +kernel
theorem dX7_unlike_47 : decode cX7_unlike 47 = .ok (.invokevirtual 74, 3) := by decide +kernel
theorem dX7_unlike_50 : decode cX7_unlike 50 = .ok (.iinc 4 1, 3) := by decide +kernel
theorem dX7_unlike_53 : decode cX7_unlike 53 = .ok (.goto (-38), 3) := by decide +kernel
theorem dX7_unlike_56 : decode cX7_unlike 56 = .ok (.aload_n 0, 1) := by decide +kernel
theorem dX7_unlike_57 : decode cX7_unlike 57 = .ok (.getfield 19, 3) := by decide +kernel
theorem dX7_unlike_60 : decode cX7_unlike 60 = .ok (.invokevirtual 77, 3) := by decide +kernel
theorem dX7_unlike_63 : decode cX7_unlike 63 = .ok (.ireturn, 1) := by decide +kernel
theorem dX7_weigh_0 : decode cX7_weigh 0 = .ok (.aload_n 0, 1) := by decide +kernel
theorem dX7_weigh_1 : decode cX7_weigh 1 = .ok (.invokevirtual 80, 3) := by decide +kernel
theorem dX7_weigh_4 : decode cX7_weigh 4 = .ok (.bipush 8, 2) := by decide +kernel
theorem dX7_weigh_6 : decode cX7_weigh 6 = .ok (.invokestatic 81, 3) := by decide +kernel
theorem dX7_weigh_9 : decode cX7_weigh 9 = .ok (.istore_n 2, 1) := by decide +kernel
theorem dX7_weigh_10 : decode cX7_weigh 10 = .ok (.aload_n 0, 1) := by decide +kernel
theorem dX7_weigh_11 : decode cX7_weigh 11 = .ok (.bipush (-6), 2) := by decide +kernel
theorem dX7_weigh_13 : decode cX7_weigh 13 = .ok (.putfield 87, 3) := by decide +kernel
theorem dX7_weigh_16 : decode cX7_weigh 16 = .ok (.aload_n 0, 1) := by decide +kernel
theorem dX7_weigh_17 : decode cX7_weigh 17 = .ok (.iconst 0, 1) := by decide +kernel
theorem dX7_weigh_18 : decode cX7_weigh 18 = .ok (.putfield 90, 3) := by decide +kernel
theorem dX7_weigh_21 : decode cX7_weigh 21 = .ok (.iconst 0, 1) := by decide +kernel
theorem dX7_weigh_22 : decode cX7_weigh 22 = .ok (.istore_n 3, 1) := by decide +kernel
theorem dX7_weigh_23 : decode cX7_weigh 23 = .ok (.iload_n 3, 1) := by decide +kernel
theorem dX7_weigh_24 : decode cX7_weigh 24 = .ok (.iload_n 2, 1) := by decide +kernel
theorem dX7_weigh_25 : decode cX7_weigh 25 = .ok (.if_icmp .ge 48, 3) := by decide +kernel
theorem dX7_weigh_28 : decode cX7_weigh 28 = .ok (.aload_n 0, 1) := by decide +kernel
theorem dX7_weigh_29 : decode cX7_weigh 29 = .ok (.iconst 1, 1) := by decide +kernel
theorem dX7_weigh_30 : decode cX7_weigh 30 = .ok (.iload_n 3, 1) := by decide +kernel
theorem dX7_weigh_31 : decode cX7_weigh 31 = .ok (.ishl, 1) := by decide +kernel
theorem dX7_weigh_32 : decode cX7_weigh 32 = .ok (.iload_n 1, 1) := by decide +kernel
theorem dX7_weigh_33 : decode cX7_weigh 33 = .ok (.invokevirtual 93, 3) := by decide +kernel
theorem dX7_weigh_36 : decode cX7_weigh 36 = .ok (.istore 4, 2) := by decide +kernel
theorem dX7_weigh_38 : decode cX7_weigh 38 = .ok (.aload_n 0, 1) := by decide +kernel
theorem dX7_weigh_39 : decode cX7_weigh 39 = .ok (.getfield 87, 3) := by decide +kernel
theorem dX7_weigh_42 : decode cX7_weigh 42 = .ok (.bipush (-6), 2) := by decide +kernel
theorem dX7_weigh_44 : decode cX7_weigh 44 = .ok (.if_icmp .eq 12, 3) := by decide +kernel
theorem dX7_weigh_47 : decode cX7_weigh 47 = .ok (.iload 4, 2) := by decide +kernel
theorem dX7_weigh_49 : decode cX7_weigh 49 = .ok (.aload_n 0, 1) := by decide +kernel
theorem dX7_weigh_50 : decode cX7_weigh 50 = .ok (.getfield 90, 3) := by decide +kernel
theorem dX7_weigh_53 : decode cX7_weigh 53 = .ok (.if_icmp .le 14, 3) := by decide +kernel
theorem dX7_weigh_56 : decode cX7_weigh 56 = .ok (.aload_n 0, 1) := by decide +kernel
theorem dX7_weigh_57 : decode cX7_weigh 57 = .ok (.iload_n 3, 1) := by decide +kernel
theorem dX7_weigh_58 : decode cX7_weigh 58 = .ok (.putfield 87, 3) := by decide +kernel
theorem dX7_weigh_61 : decode cX7_weigh 61 = .ok (.aload_n 0, 1) := by decide +kernel
theorem dX7_weigh_62 : decode cX7_weigh 62 = .ok (.iload 4, 2) := by decide +kernel
theorem dX7_weigh_64 : decode cX7_weigh 64 = .ok (.putfield 90, 3) := by decide +kernel
theorem dX7_weigh_67 : decode cX7_weigh 67 = .ok (.iinc 3 1, 3) := by decide +kernel
theorem dX7_weigh_70 : decode cX7_weigh 70 = .ok (.goto (-47), 3) := by decide +kernel
theorem dX7_weigh_73 : decode cX7_weigh 73 = .ok (.return_, 1) := by decide +kernel
theorem dX7_hanging_0 : decode cX7_hanging 0 = .ok (.iconst 0, 1) := by decide +kernel
theorem dX7_hanging_1 : decode cX7_hanging 1 = .ok (.istore_n 3, 1) := by decide +kernel
theorem dX7_hanging_2 : decode cX7_hanging 2 = .ok (.iconst 0, 1) := by decide +kernel
theorem dX7_hanging_3 : decode cX7_hanging 3 = .ok (.istore 4, 2) := by decide +kernel
theorem dX7_hanging_5 : decode cX7_hanging 5 = .ok (.iload 4, 2) := by decide +kernel
theorem dX7_hanging_7 : decode cX7_hanging 7 = .ok (.aload_n 0, 1) := by decide +kernel
theorem dX7_hanging_8 : decode cX7_hanging 8 = .ok (.getfield 9, 3) := by decide +kernel
theorem dX7_hanging_11 : decode cX7_hanging 11 = .ok (.getfield 96, 3) := by decide +kernel
theorem dX7_hanging_14 : decode cX7_hanging 14 = .ok (.if_icmp .ge 61, 3) := by decide +kernel
theorem dX7_hanging_17 : decode cX7_hanging 17 = .ok (.aload_n 0, 1) := by decide +kernel
theorem dX7_hanging_18 : decode cX7_hanging 18 = .ok (.getfield 9, 3) := by decide +kernel
theorem dX7_hanging_21 : decode cX7_hanging 21 = .ok (.getfield 99, 3) := by decide +kernel
theorem dX7_hanging_24 : decode cX7_hanging 24 = .ok (.iload 4, 2) := by decide +kernel
theorem dX7_hanging_26 : decode cX7_hanging 26 = .ok (.aaload, 1) := by decide +kernel
theorem dX7_hanging_27 : decode cX7_hanging 27 = .ok (.astore 5, 2) := by decide +kernel
theorem dX7_hanging_29 : decode cX7_hanging 29 = .ok (.aload_n 0, 1) := by decide +kernel
theorem dX7_hanging_30 : decode cX7_hanging 30 = .ok (.getfield 15, 3) := by decide +kernel
theorem dX7_hanging_33 : decode cX7_hanging 33 = .ok (.aload 5, 2) := by decide +kernel
theorem dX7_hanging_35 : decode cX7_hanging 35 = .ok (.iload_n 2, 1) := by decide +kernel
theorem dX7_hanging_36 : decode cX7_hanging 36 = .ok (.invokevirtual 55, 3) := by decide +kernel
theorem dX7_hanging_39 : decode cX7_hanging 39 = .ok (.istore 6, 2) := by decide +kernel
theorem dX7_hanging_41 : decode cX7_hanging 41 = .ok (.aload_n 0, 1) := by decide +kernel
theorem dX7_hanging_42 : decode cX7_hanging 42 = .ok (.iload_n 1, 1) := by decide +kernel
theorem dX7_hanging_43 : decode cX7_hanging 43 = .ok (.invokevirtual 51, 3) := by decide +kernel
theorem dX7_hanging_46 : decode cX7_hanging 46 = .ok (.aload_n 0, 1) := by decide +kernel
theorem dX7_hanging_47 : decode cX7_hanging 47 = .ok (.getfield 15, 3) := by decide +kernel
theorem dX7_hanging_50 : decode cX7_hanging 50 = .ok (.aload 5, 2) := by decide +kernel
theorem dX7_hanging_52 : decode cX7_hanging 52 = .ok (.iload_n 2, 1) := by decide +kernel
theorem dX7_hanging_53 : decode cX7_hanging 53 = .ok (.invokevirtual 55, 3) := by decide +kernel
theorem dX7_hanging_56 : decode cX7_hanging 56 = .ok (.iload 6, 2) := by decide +kernel
theorem dX7_hanging_58 : decode cX7_hanging 58 = .ok (.if_icmp .eq 6, 3) := by decide +kernel
theorem dX7_hanging_61 : decode cX7_hanging 61 = .ok (.iinc 3 1, 3) := by decide +kernel
theorem dX7_hanging_64 : decode cX7_hanging 64 = .ok (.aload_n 0, 1) := by decide +kernel
theorem dX7_hanging_65 : decode cX7_hanging 65 = .ok (.iconst 0, 1) := by decide +kernel
theorem dX7_hanging_66 : decode cX7_hanging 66 = .ok (.invokevirtual 51, 3) := by decide +kernel
theorem dX7_hanging_69 : decode cX7_hanging 69 = .ok (.iinc 4 1, 3) := by decide +kernel
theorem dX7_hanging_72 : decode cX7_hanging 72 = .ok (.goto (-67), 3) := by decide +kernel
theorem dX7_hanging_75 : decode cX7_hanging 75 = .ok (.iload_n 3, 1) := by decide +kernel
theorem dX7_hanging_76 : decode cX7_hanging 76 = .ok (.ireturn, 1) := by decide +kernel
theorem dX8_init_0 : decode cX8_init 0 = .ok (.aload_n 0, 1) := by decide +kernel
theorem dX8_init_1 : decode cX8_init 1 = .ok (.invokespecial 3, 3) := by decide +kernel
theorem dX8_init_4 : decode cX8_init 4 = .ok (.aload_n 0, 1) := by decide +kernel
theorem dX8_init_5 : decode cX8_init 5 = .ok (.aload_n 1, 1) := by decide +kernel
theorem dX8_init_6 : decode cX8_init 6 = .ok (.putfield 9, 3) := by decide +kernel
theorem dX8_init_9 : decode cX8_init 9 = .ok (.aload_n 0, 1) := by decide +kernel
theorem dX8_init_10 : decode cX8_init 10 = .ok (.aload_n 2, 1) := by decide +kernel
theorem dX8_init_11 : decode cX8_init 11 = .ok (.putfield 15, 3) := by decide +kernel
theorem dX8_init_14 : decode cX8_init 14 = .ok (.aload_n 0, 1) := by decide +kernel
theorem dX8_init_15 : decode cX8_init 15 = .ok (.aload_n 3, 1) := by decide +kernel
theorem dX8_init_16 : decode cX8_init 16 = .ok (.putfield 19, 3) := by decide +kernel
theorem dX8_init_19 : decode cX8_init 19 = .ok (.aload_n 0, 1) := by decide +kernel
theorem dX8_init_20 : decode cX8_init 20 = .ok (.new 23, 3) := by decide +kernel
theorem dX8_init_23 : decode cX8_init 23 = .ok (.dup, 1) := by decide +kernel
theorem dX8_init_24 : decode cX8_init 24 = .ok (.invokespecial 25, 3) := by decide +kernel
theorem dX8_init_27 : decode cX8_init 27 = .ok (.putfield 26, 3) := by decide +kernel
theorem dX8_init_30 : decode cX8_init 30 = .ok (.return_, 1) := by decide +kernel
theorem dX8_unlike_0 : decode cX8_unlike 0 = .ok (.aload_n 0, 1) := by decide +kernel
theorem dX8_unlike_1 : decode cX8_unlike 1 = .ok (.getfield 19, 3) := by decide +kernel
theorem dX8_unlike_4 : decode cX8_unlike 4 = .ok (.invokevirtual 30, 3) := by decide +kernel
theorem dX8_unlike_7 : decode cX8_unlike 7 = .ok (.iconst 0, 1) := by decide +kernel
theorem dX8_unlike_8 : decode cX8_unlike 8 = .ok (.istore_n 2, 1) := by decide +kernel
theorem dX8_unlike_9 : decode cX8_unlike 9 = .ok (.iload_n 2, 1) := by decide +kernel
theorem dX8_unlike_10 : decode cX8_unlike 10 = .ok (.iload_n 1, 1) := by decide +kernel
theorem dX8_unlike_11 : decode cX8_unlike 11 = .ok (.if_icmp .gt 69, 3) := by decide +kernel
theorem dX8_unlike_14 : decode cX8_unlike 14 = .ok (.iload_n 2, 1) := by decide +kernel
theorem dX8_unlike_15 : decode cX8_unlike 15 = .ok (.ifCond .le 17, 3) := by decide +kernel
theorem dX8_unlike_18 : decode cX8_unlike 18 = .ok (.aload_n 0, 1) := by decide +kernel
theorem dX8_unlike_19 : decode cX8_unlike 19 = .ok (.getfield 9, 3) := by decide +kernel
theorem dX8_unlike_22 : decode cX8_unlike 22 = .ok (.iload_n 2, 1) := by decide +kernel
theorem dX8_unlike_23 : decode cX8_unlike 23 = .ok (.invokevirtual 35, 3) := by decide +kernel
theorem dX8_unlike_26 : decode cX8_unlike 26 = .ok (.ifCond .ne 6, 3) := by decide +kernel
theorem dX8_unlike_29 : decode cX8_unlike 29 = .ok (.goto 45, 3) := by decide +kernel
theorem dX8_unlike_32 : decode cX8_unlike 32 = .ok (.iconst 0, 1) := by decide +kernel
theorem dX8_unlike_33 : decode cX8_unlike 33 = .ok (.istore_n 3, 1) := by decide +kernel
theorem dX8_unlike_34 : decode cX8_unlike 34 = .ok (.iload_n 3, 1) := by decide +kernel
theorem dX8_unlike_35 : decode cX8_unlike 35 = .ok (.bipush 32, 2) := by decide +kernel
theorem dX8_unlike_37 : decode cX8_unlike 37 = .ok (.if_icmp .ge 37, 3) := by decide +kernel
theorem dX8_unlike_40 : decode cX8_unlike 40 = .ok (.aload_n 0, 1) := by decide +kernel
theorem dX8_unlike_41 : decode cX8_unlike 41 = .ok (.getfield 26, 3) := by decide +kernel
theorem dX8_unlike_44 : decode cX8_unlike 44 = .ok (.iload_n 2, 1) := by decide +kernel
theorem dX8_unlike_45 : decode cX8_unlike 45 = .ok (.iload_n 3, 1) := by decide +kernel
theorem dX8_unlike_46 : decode cX8_unlike 46 = .ok (.invokevirtual 41, 3) := by decide +kernel
theorem dX8_unlike_49 : decode cX8_unlike 49 = .ok (.aload_n 0, 1) := by decide +kernel
theorem dX8_unlike_50 : decode cX8_unlike 50 = .ok (.getfield 19, 3) := by decide +kernel
theorem dX8_unlike_53 : decode cX8_unlike 53 = .ok (.aload_n 0, 1) := by decide +kernel
theorem dX8_unlike_54 : decode cX8_unlike 54 = .ok (.getfield 15, 3) := by decide +kernel
theorem dX8_unlike_57 : decode cX8_unlike 57 = .ok (.aload_n 0, 1) := by decide +kernel
theorem dX8_unlike_58 : decode cX8_unlike 58 = .ok (.getfield 26, 3) := by decide +kernel
theorem dX8_unlike_61 : decode cX8_unlike 61 = .ok (.iload_n 1, 1) := by decide +kernel
theorem dX8_unlike_62 : decode cX8_unlike 62 = .ok (.invokevirtual 45, 3) := by decide +kernel
theorem dX8_unlike_65 : decode cX8_unlike 65 = .ok (.invokevirtual 51, 3) := by decide +kernel
theorem dX8_unlike_68 : decode cX8_unlike 68 = .ok (.iinc 3 1, 3) := by decide +kernel
theorem dX8_unlike_71 : decode cX8_unlike 71 = .ok (.goto (-37), 3) := by decide +kernel
theorem dX8_unlike_74 : decode cX8_unlike 74 = .ok (.iinc 2 1, 3) := by decide +kernel
theorem dX8_unlike_77 : decode cX8_unlike 77 = .ok (.goto (-68), 3) := by decide +kernel
theorem dX8_unlike_80 : decode cX8_unlike 80 = .ok (.aload_n 0, 1) := by decide +kernel
theorem dX8_unlike_81 : decode cX8_unlike 81 = .ok (.getfield 19, 3) := by decide +kernel
theorem dX8_unlike_84 : decode cX8_unlike 84 = .ok (.invokevirtual 55, 3) := by decide +kernel
theorem dX8_unlike_87 : decode cX8_unlike 87 = .ok (.ireturn, 1) := by decide +kernel
theorem dX8_firstUngoverned_0 : decode cX8_firstUngoverned 0 = .ok (.iconst 0, 1) := by decide +kernel
theorem dX8_firstUngoverned_1 : decode cX8_firstUngoverned 1 = .ok (.istore_n 2, 1) := by decide +kernel
theorem dX8_firstUngoverned_2 : decode cX8_firstUngoverned 2 = .ok (.iload_n 2, 1) := by decide +kernel
theorem dX8_firstUngoverned_3 : decode cX8_firstUngoverned 3 = .ok (.iload_n 1, 1) := by decide +kernel
theorem dX8_firstUngoverned_4 : decode cX8_firstUngoverned 4 = .ok (.if_icmp .gt 74, 3) := by decide +kernel
theorem dX8_firstUngoverned_7 : decode cX8_firstUngoverned 7 = .ok (.iload_n 2, 1) := by decide +kernel
theorem dX8_firstUngoverned_8 : decode cX8_firstUngoverned 8 = .ok (.ifCond .le 17, 3) := by decide +kernel
theorem dX8_firstUngoverned_11 : decode cX8_firstUngoverned 11 = .ok (.aload_n 0, 1) := by decide +kernel
theorem dX8_firstUngoverned_12 : decode cX8_firstUngoverned 12 = .ok (.getfield 9, 3) := by decide +kernel
theorem dX8_firstUngoverned_15 : decode cX8_firstUngoverned 15 = .ok (.iload_n 2, 1) := by decide +kernel
theorem dX8_firstUngoverned_16 : decode cX8_firstUngoverned 16 = .ok (.invokevirtual 35, 3) := by decide +kernel
theorem dX8_firstUngoverned_19 : decode cX8_firstUngoverned 19 = .ok (.ifCond .ne 6, 3) := by decide +kernel
theorem dX8_firstUngoverned_22 : decode cX8_firstUngoverned 22 = .ok (.goto 50, 3) := by decide +kernel
theorem dX8_firstUngoverned_25 : decode cX8_firstUngoverned 25 = .ok (.iconst 0, 1) := by decide +kernel
theorem dX8_firstUngoverned_26 : decode cX8_firstUngoverned 26 = .ok (.istore_n 3, 1) := by decide +kernel
theorem dX8_firstUngoverned_27 : decode cX8_firstUngoverned 27 = .ok (.iload_n 3, 1) := by decide +kernel
theorem dX8_firstUngoverned_28 : decode cX8_firstUngoverned 28 = .ok (.bipush 32, 2) := by decide +kernel
theorem dX8_firstUngoverned_30 : decode cX8_firstUngoverned 30 = .ok (.if_icmp .ge 42, 3) := by decide +kernel
theorem dX8_firstUngoverned_33 : decode cX8_firstUngoverned 33 = .ok (.aload_n 0, 1) := by decide +kernel
theorem dX8_firstUngoverned_34 : decode cX8_firstUngoverned 34 = .ok (.getfield 26, 3) := by decide +kernel
theorem dX8_firstUngoverned_37 : decode cX8_firstUngoverned 37 = .ok (.iload_n 2, 1) := by decide +kernel
theorem dX8_firstUngoverned_38 : decode cX8_firstUngoverned 38 = .ok (.iload_n 3, 1) := by decide +kernel
theorem dX8_firstUngoverned_39 : decode cX8_firstUngoverned 39 = .ok (.invokevirtual 41, 3) := by decide +kernel
theorem dX8_firstUngoverned_42 : decode cX8_firstUngoverned 42 = .ok (.aload_n 0, 1) := by decide +kernel
theorem dX8_firstUngoverned_43 : decode cX8_firstUngoverned 43 = .ok (.getfield 15, 3) := by decide +kernel
theorem dX8_firstUngoverned_46 : decode cX8_firstUngoverned 46 = .ok (.aload_n 0, 1) := by decide +kernel
theorem dX8_firstUngoverned_47 : decode cX8_firstUngoverned 47 = .ok (.getfield 26, 3) := by decide +kernel
theorem dX8_firstUngoverned_50 : decode cX8_firstUngoverned 50 = .ok (.iload_n 1, 1) := by decide +kernel
theorem dX8_firstUngoverned_51 : decode cX8_firstUngoverned 51 = .ok (.invokevirtual 59, 3) := by decide +kernel
theorem dX8_firstUngoverned_54 : decode cX8_firstUngoverned 54 = .ok (.bipush (-6), 2) := by decide +kernel
theorem dX8_firstUngoverned_56 : decode cX8_firstUngoverned 56 = .ok (.if_icmp .ne 10, 3) := by decide +kernel
theorem dX8_firstUngoverned_59 : decode cX8_firstUngoverned 59 = .ok (.bipush 100, 2) := by decide +kernel
theorem dX8_firstUngoverned_61 : decode cX8_firstUngoverned 61 = .ok (.iload_n 2, 1) := by decide +kernel
theorem dX8_firstUngoverned_62 : decode cX8_firstUngoverned 62 = .ok (.imul, 1) := by decide +kernel
theorem dX8_firstUngoverned_63 : decode cX8_firstUngoverned 63 = .ok (.iload_n 3, 1) := by decide +kernel
theorem dX8_firstUngoverned_64 : decode cX8_firstUngoverned 64 = .ok (.iadd, 1) := by decide +kernel
theorem dX8_firstUngoverned_65 : decode cX8_firstUngoverned 65 = .ok (.ireturn, 1) := by decide +kernel
theorem dX8_firstUngoverned_66 : decode cX8_firstUngoverned 66 = .ok (.iinc 3 1, 3) := by decide +kernel
theorem dX8_firstUngoverned_69 : decode cX8_firstUngoverned 69 = .ok (.goto (-42), 3) := by decide +kernel
theorem dX8_firstUngoverned_72 : decode cX8_firstUngoverned 72 = .ok (.iinc 2 1, 3) := by decide +kernel
theorem dX8_firstUngoverned_75 : decode cX8_firstUngoverned 75 = .ok (.goto (-73), 3) := by decide +kernel
theorem dX8_firstUngoverned_78 : decode cX8_firstUngoverned 78 = .ok (.bipush (-6), 2) := by decide +kernel
theorem dX8_firstUngoverned_80 : decode cX8_firstUngoverned 80 = .ok (.ireturn, 1) := by decide +kernel
theorem dX9_init_0 : decode cX9_init 0 = .ok (.aload_n 0, 1) := by decide +kernel
theorem dX9_init_1 : decode cX9_init 1 = .ok (.invokespecial 3, 3) := by decide +kernel
theorem dX9_init_4 : decode cX9_init 4 = .ok (.aload_n 0, 1) := by decide +kernel
theorem dX9_init_5 : decode cX9_init 5 = .ok (.bipush 8, 2) := by decide +kernel
theorem dX9_init_7 : decode cX9_init 7 = .ok (.anewarray 9, 3) := by decide +kernel
theorem dX9_init_10 : decode cX9_init 10 = .ok (.putfield 11, 3) := by decide +kernel
theorem dX9_init_13 : decode cX9_init 13 = .ok (.iconst 0, 1) := by decide +kernel
theorem dX9_init_14 : decode cX9_init 14 = .ok (.istore_n 1, 1) := by decide +kernel
theorem dX9_init_15 : decode cX9_init 15 = .ok (.iload_n 1, 1) := by decide +kernel
theorem dX9_init_16 : decode cX9_init 16 = .ok (.bipush 8, 2) := by decide +kernel
theorem dX9_init_18 : decode cX9_init 18 = .ok (.if_icmp .ge 22, 3) := by decide +kernel
theorem dX9_init_21 : decode cX9_init 21 = .ok (.aload_n 0, 1) := by decide +kernel
theorem dX9_init_22 : decode cX9_init 22 = .ok (.getfield 11, 3) := by decide +kernel
theorem dX9_init_25 : decode cX9_init 25 = .ok (.iload_n 1, 1) := by decide +kernel
theorem dX9_init_26 : decode cX9_init 26 = .ok (.new 9, 3) := by decide +kernel
theorem dX9_init_29 : decode cX9_init 29 = .ok (.dup, 1) := by decide +kernel
theorem dX9_init_30 : decode cX9_init 30 = .ok (.invokespecial 17, 3) := by decide +kernel
theorem dX9_init_33 : decode cX9_init 33 = .ok (.aastore, 1) := by decide +kernel
theorem dX9_init_34 : decode cX9_init 34 = .ok (.iinc 1 1, 3) := by decide +kernel
theorem dX9_init_37 : decode cX9_init 37 = .ok (.goto (-22), 3) := by decide +kernel
theorem dX9_init_40 : decode cX9_init 40 = .ok (.aload_n 0, 1) := by decide +kernel
theorem dX9_init_41 : decode cX9_init 41 = .ok (.bipush 8, 2) := by decide +kernel
theorem dX9_init_43 : decode cX9_init 43 = .ok (.newarray .int, 2) := by decide +kernel
theorem dX9_init_45 : decode cX9_init 45 = .ok (.putfield 18, 3) := by decide +kernel
theorem dX9_init_48 : decode cX9_init 48 = .ok (.aload_n 0, 1) := by decide +kernel
theorem dX9_init_49 : decode cX9_init 49 = .ok (.bipush 8, 2) := by decide +kernel
theorem dX9_init_51 : decode cX9_init 51 = .ok (.anewarray 22, 3) := by decide +kernel
theorem dX9_init_54 : decode cX9_init 54 = .ok (.putfield 24, 3) := by decide +kernel
theorem dX9_init_57 : decode cX9_init 57 = .ok (.iconst 0, 1) := by decide +kernel
theorem dX9_init_58 : decode cX9_init 58 = .ok (.istore_n 1, 1) := by decide +kernel
theorem dX9_init_59 : decode cX9_init 59 = .ok (.iload_n 1, 1) := by decide +kernel
theorem dX9_init_60 : decode cX9_init 60 = .ok (.bipush 8, 2) := by decide +kernel
theorem dX9_init_62 : decode cX9_init 62 = .ok (.if_icmp .ge 22, 3) := by decide +kernel
theorem dX9_init_65 : decode cX9_init 65 = .ok (.aload_n 0, 1) := by decide +kernel
theorem dX9_init_66 : decode cX9_init 66 = .ok (.getfield 24, 3) := by decide +kernel
theorem dX9_init_69 : decode cX9_init 69 = .ok (.iload_n 1, 1) := by decide +kernel
theorem dX9_init_70 : decode cX9_init 70 = .ok (.new 22, 3) := by decide +kernel
theorem dX9_init_73 : decode cX9_init 73 = .ok (.dup, 1) := by decide +kernel
theorem dX9_init_74 : decode cX9_init 74 = .ok (.invokespecial 28, 3) := by decide +kernel
theorem dX9_init_77 : decode cX9_init 77 = .ok (.aastore, 1) := by decide +kernel
theorem dX9_init_78 : decode cX9_init 78 = .ok (.iinc 1 1, 3) := by decide +kernel
theorem dX9_init_81 : decode cX9_init 81 = .ok (.goto (-22), 3) := by decide +kernel
theorem dX9_init_84 : decode cX9_init 84 = .ok (.return_, 1) := by decide +kernel
theorem dX9_hasLaw_0 : decode cX9_hasLaw 0 = .ok (.iload_n 1, 1) := by decide +kernel
theorem dX9_hasLaw_1 : decode cX9_hasLaw 1 = .ok (.ifCond .lt 15, 3) := by decide +kernel
theorem dX9_hasLaw_4 : decode cX9_hasLaw 4 = .ok (.iload_n 1, 1) := by decide +kernel
theorem dX9_hasLaw_5 : decode cX9_hasLaw 5 = .ok (.aload_n 0, 1) := by decide +kernel
theorem dX9_hasLaw_6 : decode cX9_hasLaw 6 = .ok (.getfield 29, 3) := by decide +kernel
theorem dX9_hasLaw_9 : decode cX9_hasLaw 9 = .ok (.if_icmp .ge 7, 3) := by decide +kernel
theorem dX9_hasLaw_12 : decode cX9_hasLaw 12 = .ok (.iconst 1, 1) := by decide +kernel
theorem dX9_hasLaw_13 : decode cX9_hasLaw 13 = .ok (.goto 4, 3) := by decide +kernel
theorem dX9_hasLaw_16 : decode cX9_hasLaw 16 = .ok (.iconst 0, 1) := by decide +kernel
theorem dX9_hasLaw_17 : decode cX9_hasLaw 17 = .ok (.ireturn, 1) := by decide +kernel
theorem dX9_hasPiece_0 : decode cX9_hasPiece 0 = .ok (.iload_n 1, 1) := by decide +kernel
theorem dX9_hasPiece_1 : decode cX9_hasPiece 1 = .ok (.ifCond .lt 15, 3) := by decide +kernel
theorem dX9_hasPiece_4 : decode cX9_hasPiece 4 = .ok (.iload_n 1, 1) := by decide +kernel
theorem dX9_hasPiece_5 : decode cX9_hasPiece 5 = .ok (.aload_n 0, 1) := by decide +kernel
theorem dX9_hasPiece_6 : decode cX9_hasPiece 6 = .ok (.getfield 33, 3) := by decide +kernel
theorem dX9_hasPiece_9 : decode cX9_hasPiece 9 = .ok (.if_icmp .ge 7, 3) := by decide +kernel
theorem dX9_hasPiece_12 : decode cX9_hasPiece 12 = .ok (.iconst 1, 1) := by decide +kernel
theorem dX9_hasPiece_13 : decode cX9_hasPiece 13 = .ok (.goto 4, 3) := by decide +kernel
theorem dX9_hasPiece_16 : decode cX9_hasPiece 16 = .ok (.iconst 0, 1) := by decide +kernel
theorem dX9_hasPiece_17 : decode cX9_hasPiece 17 = .ok (.ireturn, 1) := by decide +kernel
theorem dX9_addLaw_0 : decode cX9_addLaw 0 = .ok (.aload_n 0, 1) := by decide +kernel
theorem dX9_addLaw_1 : decode cX9_addLaw 1 = .ok (.getfield 29, 3) := by decide +kernel
theorem dX9_addLaw_4 : decode cX9_addLaw 4 = .ok (.bipush 8, 2) := by decide +kernel
theorem dX9_addLaw_6 : decode cX9_addLaw 6 = .ok (.if_icmp .lt 6, 3) := by decide +kernel
theorem dX9_addLaw_9 : decode cX9_addLaw 9 = .ok (.bipush (-4), 2) := by decide +kernel
theorem dX9_addLaw_11 : decode cX9_addLaw 11 = .ok (.ireturn, 1) := by decide +kernel
theorem dX9_addLaw_12 : decode cX9_addLaw 12 = .ok (.aload_n 0, 1) := by decide +kernel
theorem dX9_addLaw_13 : decode cX9_addLaw 13 = .ok (.getfield 11, 3) := by decide +kernel
theorem dX9_addLaw_16 : decode cX9_addLaw 16 = .ok (.aload_n 0, 1) := by decide +kernel
theorem dX9_addLaw_17 : decode cX9_addLaw 17 = .ok (.getfield 29, 3) := by decide +kernel
theorem dX9_addLaw_20 : decode cX9_addLaw 20 = .ok (.aaload, 1) := by decide +kernel
theorem dX9_addLaw_21 : decode cX9_addLaw 21 = .ok (.astore 4, 2) := by decide +kernel
theorem dX9_addLaw_23 : decode cX9_addLaw 23 = .ok (.aload 4, 2) := by decide +kernel
theorem dX9_addLaw_25 : decode cX9_addLaw 25 = .ok (.aload_n 1, 1) := by decide +kernel
theorem dX9_addLaw_26 : decode cX9_addLaw 26 = .ok (.invokevirtual 36, 3) := by decide +kernel
theorem dX9_addLaw_29 : decode cX9_addLaw 29 = .ok (.aload 4, 2) := by decide +kernel
theorem dX9_addLaw_31 : decode cX9_addLaw 31 = .ok (.iload_n 2, 1) := by decide +kernel
theorem dX9_addLaw_32 : decode cX9_addLaw 32 = .ok (.putfield 40, 3) := by decide +kernel
theorem dX9_addLaw_35 : decode cX9_addLaw 35 = .ok (.aload 4, 2) := by decide +kernel
theorem dX9_addLaw_37 : decode cX9_addLaw 37 = .ok (.iload_n 3, 1) := by decide +kernel
theorem dX9_addLaw_38 : decode cX9_addLaw 38 = .ok (.putfield 43, 3) := by decide +kernel
theorem dX9_addLaw_41 : decode cX9_addLaw 41 = .ok (.aload_n 0, 1) := by decide +kernel
theorem dX9_addLaw_42 : decode cX9_addLaw 42 = .ok (.dup, 1) := by decide +kernel
theorem dX9_addLaw_43 : decode cX9_addLaw 43 = .ok (.getfield 29, 3) := by decide +kernel
theorem dX9_addLaw_46 : decode cX9_addLaw 46 = .ok (.iconst 1, 1) := by decide +kernel
theorem dX9_addLaw_47 : decode cX9_addLaw 47 = .ok (.iadd, 1) := by decide +kernel
theorem dX9_addLaw_48 : decode cX9_addLaw 48 = .ok (.putfield 29, 3) := by decide +kernel
theorem dX9_addLaw_51 : decode cX9_addLaw 51 = .ok (.aload_n 0, 1) := by decide +kernel
theorem dX9_addLaw_52 : decode cX9_addLaw 52 = .ok (.invokevirtual 46, 3) := by decide +kernel
theorem dX9_addLaw_55 : decode cX9_addLaw 55 = .ok (.aload_n 0, 1) := by decide +kernel
theorem dX9_addLaw_56 : decode cX9_addLaw 56 = .ok (.getfield 29, 3) := by decide +kernel
theorem dX9_addLaw_59 : decode cX9_addLaw 59 = .ok (.iconst 1, 1) := by decide +kernel
theorem dX9_addLaw_60 : decode cX9_addLaw 60 = .ok (.isub, 1) := by decide +kernel
theorem dX9_addLaw_61 : decode cX9_addLaw 61 = .ok (.ireturn, 1) := by decide +kernel
theorem dX9_addPiece_0 : decode cX9_addPiece 0 = .ok (.aload_n 0, 1) := by decide +kernel
theorem dX9_addPiece_1 : decode cX9_addPiece 1 = .ok (.getfield 33, 3) := by decide +kernel
theorem dX9_addPiece_4 : decode cX9_addPiece 4 = .ok (.bipush 8, 2) := by decide +kernel
theorem dX9_addPiece_6 : decode cX9_addPiece 6 = .ok (.if_icmp .lt 6, 3) := by decide +kernel
theorem dX9_addPiece_9 : decode cX9_addPiece 9 = .ok (.bipush (-4), 2) := by decide +kernel
theorem dX9_addPiece_11 : decode cX9_addPiece 11 = .ok (.ireturn, 1) := by decide +kernel
theorem dX9_addPiece_12 : decode cX9_addPiece 12 = .ok (.aload_n 0, 1) := by decide +kernel
theorem dX9_addPiece_13 : decode cX9_addPiece 13 = .ok (.getfield 24, 3) := by decide +kernel
theorem dX9_addPiece_16 : decode cX9_addPiece 16 = .ok (.aload_n 0, 1) := by decide +kernel
theorem dX9_addPiece_17 : decode cX9_addPiece 17 = .ok (.getfield 33, 3) := by decide +kernel
theorem dX9_addPiece_20 : decode cX9_addPiece 20 = .ok (.aaload, 1) := by decide +kernel
theorem dX9_addPiece_21 : decode cX9_addPiece 21 = .ok (.iload_n 1, 1) := by decide +kernel
theorem dX9_addPiece_22 : decode cX9_addPiece 22 = .ok (.iload_n 2, 1) := by decide +kernel
theorem dX9_addPiece_23 : decode cX9_addPiece 23 = .ok (.invokevirtual 49, 3) := by decide +kernel
theorem dX9_addPiece_26 : decode cX9_addPiece 26 = .ok (.aload_n 0, 1) := by decide +kernel
theorem dX9_addPiece_27 : decode cX9_addPiece 27 = .ok (.dup, 1) := by decide +kernel
theorem dX9_addPiece_28 : decode cX9_addPiece 28 = .ok (.getfield 33, 3) := by decide +kernel
theorem dX9_addPiece_31 : decode cX9_addPiece 31 = .ok (.iconst 1, 1) := by decide +kernel
theorem dX9_addPiece_32 : decode cX9_addPiece 32 = .ok (.iadd, 1) := by decide +kernel
theorem dX9_addPiece_33 : decode cX9_addPiece 33 = .ok (.putfield 33, 3) := by decide +kernel
theorem dX9_addPiece_36 : decode cX9_addPiece 36 = .ok (.aload_n 0, 1) := by decide +kernel
theorem dX9_addPiece_37 : decode cX9_addPiece 37 = .ok (.getfield 33, 3) := by decide +kernel
theorem dX9_addPiece_40 : decode cX9_addPiece 40 = .ok (.iconst 1, 1) := by decide +kernel
theorem dX9_addPiece_41 : decode cX9_addPiece 41 = .ok (.isub, 1) := by decide +kernel
theorem dX9_addPiece_42 : decode cX9_addPiece 42 = .ok (.ireturn, 1) := by decide +kernel
theorem dX9_orderLaws_0 : decode cX9_orderLaws 0 = .ok (.iconst 0, 1) := by decide +kernel
theorem dX9_orderLaws_1 : decode cX9_orderLaws 1 = .ok (.istore_n 1, 1) := by decide +kernel
theorem dX9_orderLaws_2 : decode cX9_orderLaws 2 = .ok (.iload_n 1, 1) := by decide +kernel
theorem dX9_orderLaws_3 : decode cX9_orderLaws 3 = .ok (.aload_n 0, 1) := by decide +kernel
theorem dX9_orderLaws_4 : decode cX9_orderLaws 4 = .ok (.getfield 29, 3) := by decide +kernel
theorem dX9_orderLaws_7 : decode cX9_orderLaws 7 = .ok (.if_icmp .ge 70, 3) := by decide +kernel
theorem dX9_orderLaws_10 : decode cX9_orderLaws 10 = .ok (.iload_n 1, 1) := by decide +kernel
theorem dX9_orderLaws_11 : decode cX9_orderLaws 11 = .ok (.istore_n 2, 1) := by decide +kernel
theorem dX9_orderLaws_12 : decode cX9_orderLaws 12 = .ok (.iload_n 2, 1) := by decide +kernel
theorem dX9_orderLaws_13 : decode cX9_orderLaws 13 = .ok (.ifCond .le 51, 3) := by decide +kernel
theorem dX9_orderLaws_16 : decode cX9_orderLaws 16 = .ok (.aload_n 0, 1) := by decide +kernel
theorem dX9_orderLaws_17 : decode cX9_orderLaws 17 = .ok (.getfield 11, 3) := by decide +kernel
theorem dX9_orderLaws_20 : decode cX9_orderLaws 20 = .ok (.iload_n 1, 1) := by decide +kernel
theorem dX9_orderLaws_21 : decode cX9_orderLaws 21 = .ok (.aaload, 1) := by decide +kernel
theorem dX9_orderLaws_22 : decode cX9_orderLaws 22 = .ok (.getfield 40, 3) := by decide +kernel
theorem dX9_orderLaws_25 : decode cX9_orderLaws 25 = .ok (.aload_n 0, 1) := by decide +kernel
theorem dX9_orderLaws_26 : decode cX9_orderLaws 26 = .ok (.getfield 11, 3) := by decide +kernel
theorem dX9_orderLaws_29 : decode cX9_orderLaws 29 = .ok (.aload_n 0, 1) := by decide +kernel
theorem dX9_orderLaws_30 : decode cX9_orderLaws 30 = .ok (.getfield 18, 3) := by decide +kernel
theorem dX9_orderLaws_33 : decode cX9_orderLaws 33 = .ok (.iload_n 2, 1) := by decide +kernel
theorem dX9_orderLaws_34 : decode cX9_orderLaws 34 = .ok (.iconst 1, 1) := by decide +kernel
theorem dX9_orderLaws_35 : decode cX9_orderLaws 35 = .ok (.isub, 1) := by decide +kernel
theorem dX9_orderLaws_36 : decode cX9_orderLaws 36 = .ok (.iaload, 1) := by decide +kernel
theorem dX9_orderLaws_37 : decode cX9_orderLaws 37 = .ok (.aaload, 1) := by decide +kernel
theorem dX9_orderLaws_38 : decode cX9_orderLaws 38 = .ok (.getfield 40, 3) := by decide +kernel
theorem dX9_orderLaws_41 : decode cX9_orderLaws 41 = .ok (.if_icmp .lt 23, 3) := by decide +kernel
theorem dX9_orderLaws_44 : decode cX9_orderLaws 44 = .ok (.aload_n 0, 1) := by decide +kernel
theorem dX9_orderLaws_45 : decode cX9_orderLaws 45 = .ok (.getfield 18, 3) := by decide +kernel
theorem dX9_orderLaws_48 : decode cX9_orderLaws 48 = .ok (.iload_n 2, 1) := by decide +kernel
theorem dX9_orderLaws_49 : decode cX9_orderLaws 49 = .ok (.aload_n 0, 1) := by decide +kernel
theorem dX9_orderLaws_50 : decode cX9_orderLaws 50 = .ok (.getfield 18, 3) := by decide +kernel
theorem dX9_orderLaws_53 : decode cX9_orderLaws 53 = .ok (.iload_n 2, 1) := by decide +kernel
theorem dX9_orderLaws_54 : decode cX9_orderLaws 54 = .ok (.iconst 1, 1) := by decide +kernel
theorem dX9_orderLaws_55 : decode cX9_orderLaws 55 = .ok (.isub, 1) := by decide +kernel
theorem dX9_orderLaws_56 : decode cX9_orderLaws 56 = .ok (.iaload, 1) := by decide +kernel
theorem dX9_orderLaws_57 : decode cX9_orderLaws 57 = .ok (.iastore, 1) := by decide +kernel
theorem dX9_orderLaws_58 : decode cX9_orderLaws 58 = .ok (.iinc 2 (-1), 3) := by decide +kernel
theorem dX9_orderLaws_61 : decode cX9_orderLaws 61 = .ok (.goto (-49), 3) := by decide +kernel
theorem dX9_orderLaws_64 : decode cX9_orderLaws 64 = .ok (.aload_n 0, 1) := by decide +kernel
theorem dX9_orderLaws_65 : decode cX9_orderLaws 65 = .ok (.getfield 18, 3) := by decide +kernel
theorem dX9_orderLaws_68 : decode cX9_orderLaws 68 = .ok (.iload_n 2, 1) := by decide +kernel
theorem dX9_orderLaws_69 : decode cX9_orderLaws 69 = .ok (.iload_n 1, 1) := by decide +kernel
theorem dX9_orderLaws_70 : decode cX9_orderLaws 70 = .ok (.iastore, 1) := by decide +kernel
theorem dX9_orderLaws_71 : decode cX9_orderLaws 71 = .ok (.iinc 1 1, 3) := by decide +kernel
theorem dX9_orderLaws_74 : decode cX9_orderLaws 74 = .ok (.goto (-72), 3) := by decide +kernel
theorem dX9_orderLaws_77 : decode cX9_orderLaws 77 = .ok (.return_, 1) := by decide +kernel
theorem dX9_lawsInForce_0 : decode cX9_lawsInForce 0 = .ok (.iconst 0, 1) := by decide +kernel
theorem dX9_lawsInForce_1 : decode cX9_lawsInForce 1 = .ok (.istore_n 2, 1) := by decide +kernel
theorem dX9_lawsInForce_2 : decode cX9_lawsInForce 2 = .ok (.iconst 0, 1) := by decide +kernel
theorem dX9_lawsInForce_3 : decode cX9_lawsInForce 3 = .ok (.istore_n 3, 1) := by decide +kernel
theorem dX9_lawsInForce_4 : decode cX9_lawsInForce 4 = .ok (.iload_n 3, 1) := by decide +kernel
theorem dX9_lawsInForce_5 : decode cX9_lawsInForce 5 = .ok (.aload_n 0, 1) := by decide +kernel
theorem dX9_lawsInForce_6 : decode cX9_lawsInForce 6 = .ok (.getfield 29, 3) := by decide +kernel
theorem dX9_lawsInForce_9 : decode cX9_lawsInForce 9 = .ok (.if_icmp .ge 28, 3) := by decide +kernel
theorem dX9_lawsInForce_12 : decode cX9_lawsInForce 12 = .ok (.aload_n 0, 1) := by decide +kernel
theorem dX9_lawsInForce_13 : decode cX9_lawsInForce 13 = .ok (.getfield 11, 3) := by decide +kernel
theorem dX9_lawsInForce_16 : decode cX9_lawsInForce 16 = .ok (.iload_n 3, 1) := by decide +kernel
theorem dX9_lawsInForce_17 : decode cX9_lawsInForce 17 = .ok (.aaload, 1) := by decide +kernel
theorem dX9_lawsInForce_18 : decode cX9_lawsInForce 18 = .ok (.iload_n 1, 1) := by decide +kernel
theorem dX9_lawsInForce_19 : decode cX9_lawsInForce 19 = .ok (.invokevirtual 53, 3) := by decide +kernel
theorem dX9_lawsInForce_22 : decode cX9_lawsInForce 22 = .ok (.ifCond .eq 9, 3) := by decide +kernel
theorem dX9_lawsInForce_25 : decode cX9_lawsInForce 25 = .ok (.iload_n 2, 1) := by decide +kernel
theorem dX9_lawsInForce_26 : decode cX9_lawsInForce 26 = .ok (.iconst 1, 1) := by decide +kernel
theorem dX9_lawsInForce_27 : decode cX9_lawsInForce 27 = .ok (.iload_n 3, 1) := by decide +kernel
theorem dX9_lawsInForce_28 : decode cX9_lawsInForce 28 = .ok (.ishl, 1) := by decide +kernel
theorem dX9_lawsInForce_29 : decode cX9_lawsInForce 29 = .ok (.ior, 1) := by decide +kernel
theorem dX9_lawsInForce_30 : decode cX9_lawsInForce 30 = .ok (.istore_n 2, 1) := by decide +kernel
theorem dX9_lawsInForce_31 : decode cX9_lawsInForce 31 = .ok (.iinc 3 1, 3) := by decide +kernel
theorem dX9_lawsInForce_34 : decode cX9_lawsInForce 34 = .ok (.goto (-30), 3) := by decide +kernel
theorem dX9_lawsInForce_37 : decode cX9_lawsInForce 37 = .ok (.iload_n 2, 1) := by decide +kernel
theorem dX9_lawsInForce_38 : decode cX9_lawsInForce 38 = .ok (.ireturn, 1) := by decide +kernel
theorem dX9_undone_0 : decode cX9_undone 0 = .ok (.iconst 0, 1) := by decide +kernel
theorem dX9_undone_1 : decode cX9_undone 1 = .ok (.istore_n 2, 1) := by decide +kernel
theorem dX9_undone_2 : decode cX9_undone 2 = .ok (.iconst 0, 1) := by decide +kernel
theorem dX9_undone_3 : decode cX9_undone 3 = .ok (.istore_n 3, 1) := by decide +kernel
theorem dX9_undone_4 : decode cX9_undone 4 = .ok (.iload_n 3, 1) := by decide +kernel
theorem dX9_undone_5 : decode cX9_undone 5 = .ok (.aload_n 0, 1) := by decide +kernel
theorem dX9_undone_6 : decode cX9_undone 6 = .ok (.getfield 29, 3) := by decide +kernel
theorem dX9_undone_9 : decode cX9_undone 9 = .ok (.if_icmp .ge 53, 3) := by decide +kernel
theorem dX9_undone_12 : decode cX9_undone 12 = .ok (.aload_n 0, 1) := by decide +kernel
theorem dX9_undone_13 : decode cX9_undone 13 = .ok (.getfield 18, 3) := by decide +kernel
theorem dX9_undone_16 : decode cX9_undone 16 = .ok (.iload_n 3, 1) := by decide +kernel
theorem dX9_undone_17 : decode cX9_undone 17 = .ok (.iaload, 1) := by decide +kernel
theorem dX9_undone_18 : decode cX9_undone 18 = .ok (.istore 4, 2) := by decide +kernel
theorem dX9_undone_20 : decode cX9_undone 20 = .ok (.aload_n 0, 1) := by decide +kernel
theorem dX9_undone_21 : decode cX9_undone 21 = .ok (.getfield 11, 3) := by decide +kernel
theorem dX9_undone_24 : decode cX9_undone 24 = .ok (.iload 4, 2) := by decide +kernel
theorem dX9_undone_26 : decode cX9_undone 26 = .ok (.aaload, 1) := by decide +kernel
theorem dX9_undone_27 : decode cX9_undone 27 = .ok (.iload_n 1, 1) := by decide +kernel
theorem dX9_undone_28 : decode cX9_undone 28 = .ok (.invokevirtual 53, 3) := by decide +kernel
theorem dX9_undone_31 : decode cX9_undone 31 = .ok (.ifCond .eq 25, 3) := by decide +kernel
theorem dX9_undone_34 : decode cX9_undone 34 = .ok (.iload_n 2, 1) := by decide +kernel
theorem dX9_undone_35 : decode cX9_undone 35 = .ok (.iload 4, 2) := by decide +kernel
theorem dX9_undone_37 : decode cX9_undone 37 = .ok (.ishr, 1) := by decide +kernel
theorem dX9_undone_38 : decode cX9_undone 38 = .ok (.iconst 1, 1) := by decide +kernel
theorem dX9_undone_39 : decode cX9_undone 39 = .ok (.iand, 1) := by decide +kernel
theorem dX9_undone_40 : decode cX9_undone 40 = .ok (.ifCond .ne 16, 3) := by decide +kernel
theorem dX9_undone_43 : decode cX9_undone 43 = .ok (.iload_n 2, 1) := by decide +kernel
theorem dX9_undone_44 : decode cX9_undone 44 = .ok (.aload_n 0, 1) := by decide +kernel
theorem dX9_undone_45 : decode cX9_undone 45 = .ok (.getfield 11, 3) := by decide +kernel
theorem dX9_undone_48 : decode cX9_undone 48 = .ok (.iload 4, 2) := by decide +kernel
theorem dX9_undone_50 : decode cX9_undone 50 = .ok (.aaload, 1) := by decide +kernel
theorem dX9_undone_51 : decode cX9_undone 51 = .ok (.getfield 57, 3) := by decide +kernel
theorem dX9_undone_54 : decode cX9_undone 54 = .ok (.ior, 1) := by decide +kernel
theorem dX9_undone_55 : decode cX9_undone 55 = .ok (.istore_n 2, 1) := by decide +kernel
theorem dX9_undone_56 : decode cX9_undone 56 = .ok (.iinc 3 1, 3) := by decide +kernel
theorem dX9_undone_59 : decode cX9_undone 59 = .ok (.goto (-55), 3) := by decide +kernel
theorem dX9_undone_62 : decode cX9_undone 62 = .ok (.iload_n 2, 1) := by decide +kernel
theorem dX9_undone_63 : decode cX9_undone 63 = .ok (.iconst 1, 1) := by decide +kernel
theorem dX9_undone_64 : decode cX9_undone 64 = .ok (.aload_n 0, 1) := by decide +kernel
theorem dX9_undone_65 : decode cX9_undone 65 = .ok (.getfield 29, 3) := by decide +kernel
theorem dX9_undone_68 : decode cX9_undone 68 = .ok (.ishl, 1) := by decide +kernel
theorem dX9_undone_69 : decode cX9_undone 69 = .ok (.iconst 1, 1) := by decide +kernel
theorem dX9_undone_70 : decode cX9_undone 70 = .ok (.isub, 1) := by decide +kernel
theorem dX9_undone_71 : decode cX9_undone 71 = .ok (.iand, 1) := by decide +kernel
theorem dX9_undone_72 : decode cX9_undone 72 = .ok (.ireturn, 1) := by decide +kernel
theorem dX9_turnsOn_0 : decode cX9_turnsOn 0 = .ok (.iconst 0, 1) := by decide +kernel
theorem dX9_turnsOn_1 : decode cX9_turnsOn 1 = .ok (.istore_n 2, 1) := by decide +kernel
theorem dX9_turnsOn_2 : decode cX9_turnsOn 2 = .ok (.iload_n 2, 1) := by decide +kernel
theorem dX9_turnsOn_3 : decode cX9_turnsOn 3 = .ok (.aload_n 0, 1) := by decide +kernel
theorem dX9_turnsOn_4 : decode cX9_turnsOn 4 = .ok (.getfield 29, 3) := by decide +kernel
theorem dX9_turnsOn_7 : decode cX9_turnsOn 7 = .ok (.if_icmp .ge 37, 3) := by decide +kernel
theorem dX9_turnsOn_10 : decode cX9_turnsOn 10 = .ok (.aload_n 0, 1) := by decide +kernel
theorem dX9_turnsOn_11 : decode cX9_turnsOn 11 = .ok (.getfield 11, 3) := by decide +kernel
theorem dX9_turnsOn_14 : decode cX9_turnsOn 14 = .ok (.iload_n 2, 1) := by decide +kernel
theorem dX9_turnsOn_15 : decode cX9_turnsOn 15 = .ok (.aaload, 1) := by decide +kernel
theorem dX9_turnsOn_16 : decode cX9_turnsOn 16 = .ok (.getfield 40, 3) := by decide +kernel
theorem dX9_turnsOn_19 : decode cX9_turnsOn 19 = .ok (.iload_n 1, 1) := by decide +kernel
theorem dX9_turnsOn_20 : decode cX9_turnsOn 20 = .ok (.if_icmp .eq 16, 3) := by decide +kernel
theorem dX9_turnsOn_23 : decode cX9_turnsOn 23 = .ok (.aload_n 0, 1) := by decide +kernel
theorem dX9_turnsOn_24 : decode cX9_turnsOn 24 = .ok (.getfield 11, 3) := by decide +kernel
theorem dX9_turnsOn_27 : decode cX9_turnsOn 27 = .ok (.iload_n 2, 1) := by decide +kernel
theorem dX9_turnsOn_28 : decode cX9_turnsOn 28 = .ok (.aaload, 1) := by decide +kernel
theorem dX9_turnsOn_29 : decode cX9_turnsOn 29 = .ok (.getfield 43, 3) := by decide +kernel
theorem dX9_turnsOn_32 : decode cX9_turnsOn 32 = .ok (.iload_n 1, 1) := by decide +kernel
theorem dX9_turnsOn_33 : decode cX9_turnsOn 33 = .ok (.if_icmp .ne 5, 3) := by decide +kernel
theorem dX9_turnsOn_36 : decode cX9_turnsOn 36 = .ok (.iconst 1, 1) := by decide +kernel
theorem dX9_turnsOn_37 : decode cX9_turnsOn 37 = .ok (.ireturn, 1) := by decide +kernel
theorem dX9_turnsOn_38 : decode cX9_turnsOn 38 = .ok (.iinc 2 1, 3) := by decide +kernel
theorem dX9_turnsOn_41 : decode cX9_turnsOn 41 = .ok (.goto (-39), 3) := by decide +kernel
theorem dX9_turnsOn_44 : decode cX9_turnsOn 44 = .ok (.iconst 0, 1) := by decide +kernel
theorem dX9_turnsOn_45 : decode cX9_turnsOn 45 = .ok (.ireturn, 1) := by decide +kernel
theorem dX9_briefest_0 : decode cX9_briefest 0 = .ok (.iconst 0, 1) := by decide +kernel
theorem dX9_briefest_1 : decode cX9_briefest 1 = .ok (.istore_n 1, 1) := by decide +kernel
theorem dX9_briefest_2 : decode cX9_briefest 2 = .ok (.iconst 1, 1) := by decide +kernel
theorem dX9_briefest_3 : decode cX9_briefest 3 = .ok (.istore_n 2, 1) := by decide +kernel
theorem dX9_briefest_4 : decode cX9_briefest 4 = .ok (.iload_n 2, 1) := by decide +kernel
theorem dX9_briefest_5 : decode cX9_briefest 5 = .ok (.aload_n 0, 1) := by decide +kernel
theorem dX9_briefest_6 : decode cX9_briefest 6 = .ok (.getfield 29, 3) := by decide +kernel
theorem dX9_briefest_9 : decode cX9_briefest 9 = .ok (.if_icmp .ge 32, 3) := by decide +kernel
theorem dX9_briefest_12 : decode cX9_briefest 12 = .ok (.aload_n 0, 1) := by decide +kernel
theorem dX9_briefest_13 : decode cX9_briefest 13 = .ok (.getfield 11, 3) := by decide +kernel
theorem dX9_briefest_16 : decode cX9_briefest 16 = .ok (.iload_n 2, 1) := by decide +kernel
theorem dX9_briefest_17 : decode cX9_briefest 17 = .ok (.aaload, 1) := by decide +kernel
theorem dX9_briefest_18 : decode cX9_briefest 18 = .ok (.invokevirtual 60, 3) := by decide +kernel
theorem dX9_briefest_21 : decode cX9_briefest 21 = .ok (.aload_n 0, 1) := by decide +kernel
theorem dX9_briefest_22 : decode cX9_briefest 22 = .ok (.getfield 11, 3) := by decide +kernel
theorem dX9_briefest_25 : decode cX9_briefest 25 = .ok (.iload_n 1, 1) := by decide +kernel
theorem dX9_briefest_26 : decode cX9_briefest 26 = .ok (.aaload, 1) := by decide +kernel
theorem dX9_briefest_27 : decode cX9_briefest 27 = .ok (.invokevirtual 60, 3) := by decide +kernel
theorem dX9_briefest_30 : decode cX9_briefest 30 = .ok (.if_icmp .ge 5, 3) := by decide +kernel
theorem dX9_briefest_33 : decode cX9_briefest 33 = .ok (.iload_n 2, 1) := by decide +kernel
theorem dX9_briefest_34 : decode cX9_briefest 34 = .ok (.istore_n 1, 1) := by decide +kernel
theorem dX9_briefest_35 : decode cX9_briefest 35 = .ok (.iinc 2 1, 3) := by decide +kernel
theorem dX9_briefest_38 : decode cX9_briefest 38 = .ok (.goto (-34), 3) := by decide +kernel
theorem dX9_briefest_41 : decode cX9_briefest 41 = .ok (.iload_n 1, 1) := by decide +kernel
theorem dX9_briefest_42 : decode cX9_briefest 42 = .ok (.ireturn, 1) := by decide +kernel
theorem dX9_copyFrom_0 : decode cX9_copyFrom 0 = .ok (.aload_n 0, 1) := by decide +kernel
theorem dX9_copyFrom_1 : decode cX9_copyFrom 1 = .ok (.aload_n 1, 1) := by decide +kernel
theorem dX9_copyFrom_2 : decode cX9_copyFrom 2 = .ok (.getfield 29, 3) := by decide +kernel
theorem dX9_copyFrom_5 : decode cX9_copyFrom 5 = .ok (.putfield 29, 3) := by decide +kernel
theorem dX9_copyFrom_8 : decode cX9_copyFrom 8 = .ok (.iconst 0, 1) := by decide +kernel
theorem dX9_copyFrom_9 : decode cX9_copyFrom 9 = .ok (.istore_n 2, 1) := by decide +kernel
theorem dX9_copyFrom_10 : decode cX9_copyFrom 10 = .ok (.iload_n 2, 1) := by decide +kernel
theorem dX9_copyFrom_11 : decode cX9_copyFrom 11 = .ok (.aload_n 0, 1) := by decide +kernel
theorem dX9_copyFrom_12 : decode cX9_copyFrom 12 = .ok (.getfield 29, 3) := by decide +kernel
theorem dX9_copyFrom_15 : decode cX9_copyFrom 15 = .ok (.if_icmp .ge 24, 3) := by decide +kernel
theorem dX9_copyFrom_18 : decode cX9_copyFrom 18 = .ok (.aload_n 0, 1) := by decide +kernel
theorem dX9_copyFrom_19 : decode cX9_copyFrom 19 = .ok (.getfield 11, 3) := by decide +kernel
theorem dX9_copyFrom_22 : decode cX9_copyFrom 22 = .ok (.iload_n 2, 1) := by decide +kernel
theorem dX9_copyFrom_23 : decode cX9_copyFrom 23 = .ok (.aaload, 1) := by decide +kernel
theorem dX9_copyFrom_24 : decode cX9_copyFrom 24 = .ok (.aload_n 1, 1) := by decide +kernel
theorem dX9_copyFrom_25 : decode cX9_copyFrom 25 = .ok (.getfield 11, 3) := by decide +kernel
theorem dX9_copyFrom_28 : decode cX9_copyFrom 28 = .ok (.iload_n 2, 1) := by decide +kernel
theorem dX9_copyFrom_29 : decode cX9_copyFrom 29 = .ok (.aaload, 1) := by decide +kernel
theorem dX9_copyFrom_30 : decode cX9_copyFrom 30 = .ok (.invokevirtual 64, 3) := by decide +kernel
theorem dX9_copyFrom_33 : decode cX9_copyFrom 33 = .ok (.iinc 2 1, 3) := by decide +kernel
theorem dX9_copyFrom_36 : decode cX9_copyFrom 36 = .ok (.goto (-26), 3) := by decide +kernel
theorem dX9_copyFrom_39 : decode cX9_copyFrom 39 = .ok (.aload_n 1, 1) := by decide +kernel
theorem dX9_copyFrom_40 : decode cX9_copyFrom 40 = .ok (.getfield 18, 3) := by decide +kernel
theorem dX9_copyFrom_43 : decode cX9_copyFrom 43 = .ok (.iconst 0, 1) := by decide +kernel
theorem dX9_copyFrom_44 : decode cX9_copyFrom 44 = .ok (.aload_n 0, 1) := by decide +kernel
theorem dX9_copyFrom_45 : decode cX9_copyFrom 45 = .ok (.getfield 18, 3) := by decide +kernel
theorem dX9_copyFrom_48 : decode cX9_copyFrom 48 = .ok (.iconst 0, 1) := by decide +kernel
theorem dX9_copyFrom_49 : decode cX9_copyFrom 49 = .ok (.bipush 8, 2) := by decide +kernel
theorem dX9_copyFrom_51 : decode cX9_copyFrom 51 = .ok (.invokestatic 67, 3) := by decide +kernel
theorem dX9_copyFrom_54 : decode cX9_copyFrom 54 = .ok (.aload_n 0, 1) := by decide +kernel
theorem dX9_copyFrom_55 : decode cX9_copyFrom 55 = .ok (.aload_n 1, 1) := by decide +kernel
theorem dX9_copyFrom_56 : decode cX9_copyFrom 56 = .ok (.getfield 33, 3) := by decide +kernel
theorem dX9_copyFrom_59 : decode cX9_copyFrom 59 = .ok (.putfield 33, 3) := by decide +kernel
theorem dX9_copyFrom_62 : decode cX9_copyFrom 62 = .ok (.iconst 0, 1) := by decide +kernel
theorem dX9_copyFrom_63 : decode cX9_copyFrom 63 = .ok (.istore_n 2, 1) := by decide +kernel
theorem dX9_copyFrom_64 : decode cX9_copyFrom 64 = .ok (.iload_n 2, 1) := by decide +kernel
theorem dX9_copyFrom_65 : decode cX9_copyFrom 65 = .ok (.aload_n 0, 1) := by decide +kernel
theorem dX9_copyFrom_66 : decode cX9_copyFrom 66 = .ok (.getfield 33, 3) := by decide +kernel
theorem dX9_copyFrom_69 : decode cX9_copyFrom 69 = .ok (.if_icmp .ge 24, 3) := by decide +kernel
theorem dX9_copyFrom_72 : decode cX9_copyFrom 72 = .ok (.aload_n 0, 1) := by decide +kernel
theorem dX9_copyFrom_73 : decode cX9_copyFrom 73 = .ok (.getfield 24, 3) := by decide +kernel
theorem dX9_copyFrom_76 : decode cX9_copyFrom 76 = .ok (.iload_n 2, 1) := by decide +kernel
theorem dX9_copyFrom_77 : decode cX9_copyFrom 77 = .ok (.aaload, 1) := by decide +kernel
theorem dX9_copyFrom_78 : decode cX9_copyFrom 78 = .ok (.aload_n 1, 1) := by decide +kernel
theorem dX9_copyFrom_79 : decode cX9_copyFrom 79 = .ok (.getfield 24, 3) := by decide +kernel
theorem dX9_copyFrom_82 : decode cX9_copyFrom 82 = .ok (.iload_n 2, 1) := by decide +kernel
theorem dX9_copyFrom_83 : decode cX9_copyFrom 83 = .ok (.aaload, 1) := by decide +kernel
theorem dX9_copyFrom_84 : decode cX9_copyFrom 84 = .ok (.invokevirtual 73, 3) := by decide +kernel
theorem dX9_copyFrom_87 : decode cX9_copyFrom 87 = .ok (.iinc 2 1, 3) := by decide +kernel
theorem dX9_copyFrom_90 : decode cX9_copyFrom 90 = .ok (.goto (-26), 3) := by decide +kernel
theorem dX9_copyFrom_93 : decode cX9_copyFrom 93 = .ok (.aload_n 0, 1) := by decide +kernel
theorem dX9_copyFrom_94 : decode cX9_copyFrom 94 = .ok (.aload_n 1, 1) := by decide +kernel
theorem dX9_copyFrom_95 : decode cX9_copyFrom 95 = .ok (.getfield 76, 3) := by decide +kernel
theorem dX9_copyFrom_98 : decode cX9_copyFrom 98 = .ok (.putfield 76, 3) := by decide +kernel
theorem dX9_copyFrom_101 : decode cX9_copyFrom 101 = .ok (.aload_n 0, 1) := by decide +kernel
theorem dX9_copyFrom_102 : decode cX9_copyFrom 102 = .ok (.aload_n 1, 1) := by decide +kernel
theorem dX9_copyFrom_103 : decode cX9_copyFrom 103 = .ok (.getfield 79, 3) := by decide +kernel
theorem dX9_copyFrom_106 : decode cX9_copyFrom 106 = .ok (.putfield 79, 3) := by decide +kernel
theorem dX9_copyFrom_109 : decode cX9_copyFrom 109 = .ok (.aload_n 0, 1) := by decide +kernel
theorem dX9_copyFrom_110 : decode cX9_copyFrom 110 = .ok (.aload_n 1, 1) := by decide +kernel
theorem dX9_copyFrom_111 : decode cX9_copyFrom 111 = .ok (.getfield 82, 3) := by decide +kernel
theorem dX9_copyFrom_114 : decode cX9_copyFrom 114 = .ok (.putfield 82, 3) := by decide +kernel
theorem dX9_copyFrom_117 : decode cX9_copyFrom 117 = .ok (.return_, 1) := by decide +kernel
theorem dX10_init_0 : decode cX10_init 0 = .ok (.aload_n 0, 1) := by decide +kernel
theorem dX10_init_1 : decode cX10_init 1 = .ok (.invokespecial 1, 3) := by decide +kernel
theorem dX10_init_4 : decode cX10_init 4 = .ok (.aload_n 0, 1) := by decide +kernel
theorem dX10_init_5 : decode cX10_init 5 = .ok (.new 7, 3) := by decide +kernel
theorem dX10_init_8 : decode cX10_init 8 = .ok (.dup, 1) := by decide +kernel
theorem dX10_init_9 : decode cX10_init 9 = .ok (.invokespecial 9, 3) := by decide +kernel
theorem dX10_init_12 : decode cX10_init 12 = .ok (.putfield 10, 3) := by decide +kernel
theorem dX10_init_15 : decode cX10_init 15 = .ok (.aload_n 0, 1) := by decide +kernel
theorem dX10_init_16 : decode cX10_init 16 = .ok (.new 16, 3) := by decide +kernel
theorem dX10_init_19 : decode cX10_init 19 = .ok (.dup, 1) := by decide +kernel
theorem dX10_init_20 : decode cX10_init 20 = .ok (.invokespecial 18, 3) := by decide +kernel
theorem dX10_init_23 : decode cX10_init 23 = .ok (.putfield 19, 3) := by decide +kernel
theorem dX10_init_26 : decode cX10_init 26 = .ok (.aload_n 0, 1) := by decide +kernel
theorem dX10_init_27 : decode cX10_init 27 = .ok (.new 23, 3) := by decide +kernel
theorem dX10_init_30 : decode cX10_init 30 = .ok (.dup, 1) := by decide +kernel
theorem dX10_init_31 : decode cX10_init 31 = .ok (.invokespecial 25, 3) := by decide +kernel
theorem dX10_init_34 : decode cX10_init 34 = .ok (.putfield 26, 3) := by decide +kernel
theorem dX10_init_37 : decode cX10_init 37 = .ok (.aload_n 0, 1) := by decide +kernel
theorem dX10_init_38 : decode cX10_init 38 = .ok (.iconst 2, 1) := by decide +kernel
theorem dX10_init_39 : decode cX10_init 39 = .ok (.anewarray 23, 3) := by decide +kernel
theorem dX10_init_42 : decode cX10_init 42 = .ok (.putfield 30, 3) := by decide +kernel
theorem dX10_init_45 : decode cX10_init 45 = .ok (.iconst 0, 1) := by decide +kernel
theorem dX10_init_46 : decode cX10_init 46 = .ok (.istore_n 1, 1) := by decide +kernel
theorem dX10_init_47 : decode cX10_init 47 = .ok (.iload_n 1, 1) := by decide +kernel
theorem dX10_init_48 : decode cX10_init 48 = .ok (.iconst 2, 1) := by decide +kernel
theorem dX10_init_49 : decode cX10_init 49 = .ok (.if_icmp .ge 22, 3) := by decide +kernel
theorem dX10_init_52 : decode cX10_init 52 = .ok (.aload_n 0, 1) := by decide +kernel
theorem dX10_init_53 : decode cX10_init 53 = .ok (.getfield 30, 3) := by decide +kernel
theorem dX10_init_56 : decode cX10_init 56 = .ok (.iload_n 1, 1) := by decide +kernel
theorem dX10_init_57 : decode cX10_init 57 = .ok (.new 23, 3) := by decide +kernel
theorem dX10_init_60 : decode cX10_init 60 = .ok (.dup, 1) := by decide +kernel
theorem dX10_init_61 : decode cX10_init 61 = .ok (.invokespecial 25, 3) := by decide +kernel
theorem dX10_init_64 : decode cX10_init 64 = .ok (.aastore, 1) := by decide +kernel
theorem dX10_init_65 : decode cX10_init 65 = .ok (.iinc 1 1, 3) := by decide +kernel
theorem dX10_init_68 : decode cX10_init 68 = .ok (.goto (-21), 3) := by decide +kernel
theorem dX10_init_71 : decode cX10_init 71 = .ok (.aload_n 0, 1) := by decide +kernel
theorem dX10_init_72 : decode cX10_init 72 = .ok (.iconst 2, 1) := by decide +kernel
theorem dX10_init_73 : decode cX10_init 73 = .ok (.newarray .boolean, 2) := by decide +kernel
theorem dX10_init_75 : decode cX10_init 75 = .ok (.putfield 34, 3) := by decide +kernel
theorem dX10_init_78 : decode cX10_init 78 = .ok (.new 38, 3) := by decide +kernel
theorem dX10_init_81 : decode cX10_init 81 = .ok (.dup, 1) := by decide +kernel
theorem dX10_init_82 : decode cX10_init 82 = .ok (.invokespecial 40, 3) := by decide +kernel
theorem dX10_init_85 : decode cX10_init 85 = .ok (.astore_n 1, 1) := by decide +kernel
theorem dX10_init_86 : decode cX10_init 86 = .ok (.aload_n 0, 1) := by decide +kernel
theorem dX10_init_87 : decode cX10_init 87 = .ok (.new 41, 3) := by decide +kernel
theorem dX10_init_90 : decode cX10_init 90 = .ok (.dup, 1) := by decide +kernel
theorem dX10_init_91 : decode cX10_init 91 = .ok (.aload_n 0, 1) := by decide +kernel
theorem dX10_init_92 : decode cX10_init 92 = .ok (.getfield 26, 3) := by decide +kernel
theorem dX10_init_95 : decode cX10_init 95 = .ok (.invokespecial 43, 3) := by decide +kernel
theorem dX10_init_98 : decode cX10_init 98 = .ok (.putfield 46, 3) := by decide +kernel
theorem dX10_init_101 : decode cX10_init 101 = .ok (.aload_n 0, 1) := by decide +kernel
theorem dX10_init_102 : decode cX10_init 102 = .ok (.new 50, 3) := by decide +kernel
theorem dX10_init_105 : decode cX10_init 105 = .ok (.dup, 1) := by decide +kernel
theorem dX10_init_106 : decode cX10_init 106 = .ok (.aload_n 0, 1) := by decide +kernel
theorem dX10_init_107 : decode cX10_init 107 = .ok (.getfield 26, 3) := by decide +kernel
theorem dX10_init_110 : decode cX10_init 110 = .ok (.aload_n 0, 1) := by decide +kernel
theorem dX10_init_111 : decode cX10_init 111 = .ok (.getfield 46, 3) := by decide +kernel
theorem dX10_init_114 : decode cX10_init 114 = .ok (.invokespecial 52, 3) := by decide +kernel
theorem dX10_init_117 : decode cX10_init 117 = .ok (.putfield 55, 3) := by decide +kernel
theorem dX10_init_120 : decode cX10_init 120 = .ok (.aload_n 0, 1) := by decide +kernel
theorem dX10_init_121 : decode cX10_init 121 = .ok (.new 59, 3) := by decide +kernel
theorem dX10_init_124 : decode cX10_init 124 = .ok (.dup, 1) := by decide +kernel
theorem dX10_init_125 : decode cX10_init 125 = .ok (.aload_n 0, 1) := by decide +kernel
theorem dX10_init_126 : decode cX10_init 126 = .ok (.getfield 26, 3) := by decide +kernel
theorem dX10_init_129 : decode cX10_init 129 = .ok (.aload_n 0, 1) := by decide +kernel
theorem dX10_init_130 : decode cX10_init 130 = .ok (.getfield 46, 3) := by decide +kernel
theorem dX10_init_133 : decode cX10_init 133 = .ok (.aload_n 1, 1) := by decide +kernel
theorem dX10_init_134 : decode cX10_init 134 = .ok (.invokespecial 61, 3) := by decide +kernel
theorem dX10_init_137 : decode cX10_init 137 = .ok (.putfield 64, 3) := by decide +kernel
theorem dX10_init_140 : decode cX10_init 140 = .ok (.aload_n 0, 1) := by decide +kernel
theorem dX10_init_141 : decode cX10_init 141 = .ok (.new 68, 3) := by decide +kernel
theorem dX10_init_144 : decode cX10_init 144 = .ok (.dup, 1) := by decide +kernel
theorem dX10_init_145 : decode cX10_init 145 = .ok (.aload_n 0, 1) := by decide +kernel
theorem dX10_init_146 : decode cX10_init 146 = .ok (.getfield 26, 3) := by decide +kernel
theorem dX10_init_149 : decode cX10_init 149 = .ok (.aload_n 0, 1) := by decide +kernel
theorem dX10_init_150 : decode cX10_init 150 = .ok (.getfield 46, 3) := by decide +kernel
theorem dX10_init_153 : decode cX10_init 153 = .ok (.invokespecial 70, 3) := by decide +kernel
theorem dX10_init_156 : decode cX10_init 156 = .ok (.putfield 71, 3) := by decide +kernel
theorem dX10_init_159 : decode cX10_init 159 = .ok (.aload_n 0, 1) := by decide +kernel
theorem dX10_init_160 : decode cX10_init 160 = .ok (.new 75, 3) := by decide +kernel
theorem dX10_init_163 : decode cX10_init 163 = .ok (.dup, 1) := by decide +kernel
theorem dX10_init_164 : decode cX10_init 164 = .ok (.aload_n 0, 1) := by decide +kernel
theorem dX10_init_165 : decode cX10_init 165 = .ok (.getfield 26, 3) := by decide +kernel
theorem dX10_init_168 : decode cX10_init 168 = .ok (.aload_n 0, 1) := by decide +kernel
theorem dX10_init_169 : decode cX10_init 169 = .ok (.getfield 46, 3) := by decide +kernel
theorem dX10_init_172 : decode cX10_init 172 = .ok (.aload_n 1, 1) := by decide +kernel
theorem dX10_init_173 : decode cX10_init 173 = .ok (.invokespecial 77, 3) := by decide +kernel
theorem dX10_init_176 : decode cX10_init 176 = .ok (.putfield 78, 3) := by decide +kernel
theorem dX10_init_179 : decode cX10_init 179 = .ok (.return_, 1) := by decide +kernel
theorem dX10_say_0 : decode cX10_say 0 = .ok (.iload_n 1, 1) := by decide +kernel
theorem dX10_say_1 : decode cX10_say 1 = .ok (.bipush 33, 2) := by decide +kernel
theorem dX10_say_3 : decode cX10_say 3 = .ok (.bipush 126, 2) := by decide +kernel
theorem dX10_say_5 : decode cX10_say 5 = .ok (.invokestatic 82, 3) := by decide +kernel
theorem dX10_say_8 : decode cX10_say 8 = .ok (.ifCond .ne 6, 3) := by decide +kernel
theorem dX10_say_11 : decode cX10_say 11 = .ok (.bipush (-2), 2) := by decide +kernel
theorem dX10_say_13 : decode cX10_say 13 = .ok (.ireturn, 1) := by decide +kernel
theorem dX10_say_14 : decode cX10_say 14 = .ok (.aload_n 0, 1) := by decide +kernel
theorem dX10_say_15 : decode cX10_say 15 = .ok (.getfield 10, 3) := by decide +kernel
theorem dX10_say_18 : decode cX10_say 18 = .ok (.iload_n 1, 1) := by decide +kernel
theorem dX10_say_19 : decode cX10_say 19 = .ok (.invokevirtual 86, 3) := by decide +kernel
theorem dX10_say_22 : decode cX10_say 22 = .ok (.ifCond .eq 13, 3) := by decide +kernel
theorem dX10_say_25 : decode cX10_say 25 = .ok (.aload_n 0, 1) := by decide +kernel
theorem dX10_say_26 : decode cX10_say 26 = .ok (.getfield 10, 3) := by decide +kernel
theorem dX10_say_29 : decode cX10_say 29 = .ok (.getfield 90, 3) := by decide +kernel
theorem dX10_say_32 : decode cX10_say 32 = .ok (.goto 5, 3) := by decide +kernel
theorem dX10_say_35 : decode cX10_say 35 = .ok (.bipush (-4), 2) := by decide +kernel
theorem dX10_say_37 : decode cX10_say 37 = .ok (.ireturn, 1) := by decide +kernel
theorem dX10_wipe_0 : decode cX10_wipe 0 = .ok (.aload_n 0, 1) := by decide +kernel
theorem dX10_wipe_1 : decode cX10_wipe 1 = .ok (.getfield 10, 3) := by decide +kernel
theorem dX10_wipe_4 : decode cX10_wipe 4 = .ok (.getfield 90, 3) := by decide +kernel
theorem dX10_wipe_7 : decode cX10_wipe 7 = .ok (.istore_n 1, 1) := by decide +kernel
theorem dX10_wipe_8 : decode cX10_wipe 8 = .ok (.aload_n 0, 1) := by decide +kernel
theorem dX10_wipe_9 : decode cX10_wipe 9 = .ok (.getfield 10, 3) := by decide +kernel
theorem dX10_wipe_12 : decode cX10_wipe 12 = .ok (.invokevirtual 94, 3) := by decide +kernel
theorem dX10_wipe_15 : decode cX10_wipe 15 = .ok (.iload_n 1, 1) := by decide +kernel
theorem dX10_wipe_16 : decode cX10_wipe 16 = .ok (.ireturn, 1) := by decide +kernel
theorem dX10_fault_0 : decode cX10_fault 0 = .ok (.aload_n 0, 1) := by decide +kernel
theorem dX10_fault_1 : decode cX10_fault 1 = .ok (.getfield 10, 3) := by decide +kernel
theorem dX10_fault_4 : decode cX10_fault 4 = .ok (.aload_n 0, 1) := by decide +kernel
theorem dX10_fault_5 : decode cX10_fault 5 = .ok (.getfield 19, 3) := by decide +kernel
theorem dX10_fault_8 : decode cX10_fault 8 = .ok (.invokevirtual 97, 3) := by decide +kernel
theorem dX10_fault_11 : decode cX10_fault 11 = .ok (.ireturn, 1) := by decide +kernel
theorem dX10_law_0 : decode cX10_law 0 = .ok (.iload_n 1, 1) := by decide +kernel
theorem dX10_law_1 : decode cX10_law 1 = .ok (.invokestatic 101, 3) := by decide +kernel
theorem dX10_law_4 : decode cX10_law 4 = .ok (.ifCond .eq 15, 3) := by decide +kernel
theorem dX10_law_7 : decode cX10_law 7 = .ok (.iload_n 2, 1) := by decide +kernel
theorem dX10_law_8 : decode cX10_law 8 = .ok (.iload_n 1, 1) := by decide +kernel
theorem dX10_law_9 : decode cX10_law 9 = .ok (.iconst 1, 1) := by decide +kernel
theorem dX10_law_10 : decode cX10_law 10 = .ok (.iadd, 1) := by decide +kernel
theorem dX10_law_11 : decode cX10_law 11 = .ok (.bipush 100, 2) := by decide +kernel
theorem dX10_law_13 : decode cX10_law 13 = .ok (.invokestatic 82, 3) := by decide +kernel
theorem dX10_law_16 : decode cX10_law 16 = .ok (.ifCond .ne 6, 3) := by decide +kernel
theorem dX10_law_19 : decode cX10_law 19 = .ok (.bipush (-2), 2) := by decide +kernel
theorem dX10_law_21 : decode cX10_law 21 = .ok (.ireturn, 1) := by decide +kernel
theorem dX10_law_22 : decode cX10_law 22 = .ok (.aload_n 0, 1) := by decide +kernel
theorem dX10_law_23 : decode cX10_law 23 = .ok (.getfield 10, 3) := by decide +kernel
theorem dX10_law_26 : decode cX10_law 26 = .ok (.aload_n 0, 1) := by decide +kernel
theorem dX10_law_27 : decode cX10_law 27 = .ok (.getfield 19, 3) := by decide +kernel
theorem dX10_law_30 : decode cX10_law 30 = .ok (.invokevirtual 97, 3) := by decide +kernel
theorem dX10_law_33 : decode cX10_law 33 = .ok (.bipush (-6), 2) := by decide +kernel
theorem dX10_law_35 : decode cX10_law 35 = .ok (.if_icmp .eq 6, 3) := by decide +kernel
theorem dX10_law_38 : decode cX10_law 38 = .ok (.bipush (-5), 2) := by decide +kernel
theorem dX10_law_40 : decode cX10_law 40 = .ok (.ireturn, 1) := by decide +kernel
theorem dX10_law_41 : decode cX10_law 41 = .ok (.aload_n 0, 1) := by decide +kernel
theorem dX10_law_42 : decode cX10_law 42 = .ok (.getfield 26, 3) := by decide +kernel
theorem dX10_law_45 : decode cX10_law 45 = .ok (.getfield 104, 3) := by decide +kernel
theorem dX10_law_48 : decode cX10_law 48 = .ok (.bipush 8, 2) := by decide +kernel
theorem dX10_law_50 : decode cX10_law 50 = .ok (.if_icmp .lt 6, 3) := by decide +kernel
theorem dX10_law_53 : decode cX10_law 53 = .ok (.bipush (-4), 2) := by decide +kernel
theorem dX10_law_55 : decode cX10_law 55 = .ok (.ireturn, 1) := by decide +kernel
theorem dX10_law_56 : decode cX10_law 56 = .ok (.aload_n 0, 1) := by decide +kernel
theorem dX10_law_57 : decode cX10_law 57 = .ok (.getfield 10, 3) := by decide +kernel
theorem dX10_law_60 : decode cX10_law 60 = .ok (.invokevirtual 94, 3) := by decide +kernel
theorem dX10_law_63 : decode cX10_law 63 = .ok (.aload_n 0, 1) := by decide +kernel
theorem dX10_law_64 : decode cX10_law 64 = .ok (.getfield 26, 3) := by decide +kernel
theorem dX10_law_67 : decode cX10_law 67 = .ok (.aload_n 0, 1) := by decide +kernel
theorem dX10_law_68 : decode cX10_law 68 = .ok (.getfield 19, 3) := by decide +kernel
theorem dX10_law_71 : decode cX10_law 71 = .ok (.iload_n 1, 1) := by decide +kernel
theorem dX10_law_72 : decode cX10_law 72 = .ok (.iload_n 2, 1) := by decide +kernel
theorem dX10_law_73 : decode cX10_law 73 = .ok (.invokevirtual 107, 3) := by decide +kernel
theorem dX10_law_76 : decode cX10_law 76 = .ok (.ireturn, 1) := by decide +kernel
theorem dX10_anew_0 : decode cX10_anew 0 = .ok (.aload_n 0, 1) := by decide +kernel
theorem dX10_anew_1 : decode cX10_anew 1 = .ok (.getfield 26, 3) := by decide +kernel
theorem dX10_anew_4 : decode cX10_anew 4 = .ok (.iload_n 1, 1) := by decide +kernel
theorem dX10_anew_5 : decode cX10_anew 5 = .ok (.invokevirtual 111, 3) := by decide +kernel
theorem dX10_anew_8 : decode cX10_anew 8 = .ok (.ifCond .ne 5, 3) := by decide +kernel
theorem dX10_anew_11 : decode cX10_anew 11 = .ok (.iconst (-1), 1) := by decide +kernel
theorem dX10_anew_12 : decode cX10_anew 12 = .ok (.ireturn, 1) := by decide +kernel
theorem dX10_anew_13 : decode cX10_anew 13 = .ok (.aload_n 0, 1) := by decide +kernel
theorem dX10_anew_14 : decode cX10_anew 14 = .ok (.getfield 10, 3) := by decide +kernel
theorem dX10_anew_17 : decode cX10_anew 17 = .ok (.aload_n 0, 1) := by decide +kernel
theorem dX10_anew_18 : decode cX10_anew 18 = .ok (.getfield 19, 3) := by decide +kernel
theorem dX10_anew_21 : decode cX10_anew 21 = .ok (.invokevirtual 97, 3) := by decide +kernel
theorem dX10_anew_24 : decode cX10_anew 24 = .ok (.bipush (-6), 2) := by decide +kernel
theorem dX10_anew_26 : decode cX10_anew 26 = .ok (.if_icmp .eq 6, 3) := by decide +kernel
theorem dX10_anew_29 : decode cX10_anew 29 = .ok (.bipush (-5), 2) := by decide +kernel
theorem dX10_anew_31 : decode cX10_anew 31 = .ok (.ireturn, 1) := by decide +kernel
theorem dX10_anew_32 : decode cX10_anew 32 = .ok (.aload_n 0, 1) := by decide +kernel
theorem dX10_anew_33 : decode cX10_anew 33 = .ok (.getfield 10, 3) := by decide +kernel
theorem dX10_anew_36 : decode cX10_anew 36 = .ok (.invokevirtual 94, 3) := by decide +kernel
theorem dX10_anew_39 : decode cX10_anew 39 = .ok (.aload_n 0, 1) := by decide +kernel
theorem dX10_anew_40 : decode cX10_anew 40 = .ok (.getfield 26, 3) := by decide +kernel
theorem dX10_anew_43 : decode cX10_anew 43 = .ok (.getfield 114, 3) := by decide +kernel
theorem dX10_anew_46 : decode cX10_anew 46 = .ok (.iload_n 1, 1) := by decide +kernel
theorem dX10_anew_47 : decode cX10_anew 47 = .ok (.aaload, 1) := by decide +kernel
theorem dX10_anew_48 : decode cX10_anew 48 = .ok (.aload_n 0, 1) := by decide +kernel
theorem dX10_anew_49 : decode cX10_anew 49 = .ok (.getfield 19, 3) := by decide +kernel
theorem dX10_anew_52 : decode cX10_anew 52 = .ok (.invokevirtual 118, 3) := by decide +kernel
theorem dX10_anew_55 : decode cX10_anew 55 = .ok (.aload_n 0, 1) := by decide +kernel
theorem dX10_anew_56 : decode cX10_anew 56 = .ok (.getfield 19, 3) := by decide +kernel
theorem dX10_anew_59 : decode cX10_anew 59 = .ok (.getfield 122, 3) := by decide +kernel
theorem dX10_anew_62 : decode cX10_anew 62 = .ok (.ireturn, 1) := by decide +kernel
theorem dX10_move_0 : decode cX10_move 0 = .ok (.aload_n 0, 1) := by decide +kernel
theorem dX10_move_1 : decode cX10_move 1 = .ok (.getfield 26, 3) := by decide +kernel
theorem dX10_move_4 : decode cX10_move 4 = .ok (.iload_n 1, 1) := by decide +kernel
theorem dX10_move_5 : decode cX10_move 5 = .ok (.invokevirtual 111, 3) := by decide +kernel
theorem dX10_move_8 : decode cX10_move 8 = .ok (.ifCond .ne 5, 3) := by decide +kernel
theorem dX10_move_11 : decode cX10_move 11 = .ok (.iconst (-1), 1) := by decide +kernel
theorem dX10_move_12 : decode cX10_move 12 = .ok (.ireturn, 1) := by decide +kernel
theorem dX10_move_13 : decode cX10_move 13 = .ok (.iload_n 2, 1) := by decide +kernel
theorem dX10_move_14 : decode cX10_move 14 = .ok (.iconst 0, 1) := by decide +kernel
theorem dX10_move_15 : decode cX10_move 15 = .ok (.iconst 1, 1) := by decide +kernel
theorem dX10_move_16 : decode cX10_move 16 = .ok (.invokestatic 82, 3) := by decide +kernel
theorem dX10_move_19 : decode cX10_move 19 = .ok (.ifCond .ne 6, 3) := by decide +kernel
theorem dX10_move_22 : decode cX10_move 22 = .ok (.bipush (-2), 2) := by decide +kernel
theorem dX10_move_24 : decode cX10_move 24 = .ok (.ireturn, 1) := by decide +kernel
theorem dX10_move_25 : decode cX10_move 25 = .ok (.aload_n 0, 1) := by decide +kernel
theorem dX10_move_26 : decode cX10_move 26 = .ok (.getfield 26, 3) := by decide +kernel
theorem dX10_move_29 : decode cX10_move 29 = .ok (.getfield 114, 3) := by decide +kernel
theorem dX10_move_32 : decode cX10_move 32 = .ok (.iload_n 1, 1) := by decide +kernel
theorem dX10_move_33 : decode cX10_move 33 = .ok (.aaload, 1) := by decide +kernel
theorem dX10_move_34 : decode cX10_move 34 = .ok (.astore 4, 2) := by decide +kernel
theorem dX10_move_36 : decode cX10_move 36 = .ok (.iload_n 2, 1) := by decide +kernel
theorem dX10_move_37 : decode cX10_move 37 = .ok (.ifCond .ne 11, 3) := by decide +kernel
theorem dX10_move_40 : decode cX10_move 40 = .ok (.aload 4, 2) := by decide +kernel
theorem dX10_move_42 : decode cX10_move 42 = .ok (.getfield 125, 3) := by decide +kernel
theorem dX10_move_45 : decode cX10_move 45 = .ok (.goto 8, 3) := by decide +kernel
theorem dX10_move_48 : decode cX10_move 48 = .ok (.aload 4, 2) := by decide +kernel
theorem dX10_move_50 : decode cX10_move 50 = .ok (.getfield 128, 3) := by decide +kernel
theorem dX10_move_53 : decode cX10_move 53 = .ok (.istore 5, 2) := by decide +kernel
theorem dX10_move_55 : decode cX10_move 55 = .ok (.iload_n 2, 1) := by decide +kernel
theorem dX10_move_56 : decode cX10_move 56 = .ok (.ifCond .ne 30, 3) := by decide +kernel
theorem dX10_move_59 : decode cX10_move 59 = .ok (.iload_n 3, 1) := by decide +kernel
theorem dX10_move_60 : decode cX10_move 60 = .ok (.iconst 0, 1) := by decide +kernel
theorem dX10_move_61 : decode cX10_move 61 = .ok (.aload 4, 2) := by decide +kernel
theorem dX10_move_63 : decode cX10_move 63 = .ok (.getfield 128, 3) := by decide +kernel
theorem dX10_move_66 : decode cX10_move 66 = .ok (.iconst 1, 1) := by decide +kernel
theorem dX10_move_67 : decode cX10_move 67 = .ok (.isub, 1) := by decide +kernel
theorem dX10_move_68 : decode cX10_move 68 = .ok (.invokestatic 82, 3) := by decide +kernel
theorem dX10_move_71 : decode cX10_move 71 = .ok (.ifCond .ne 6, 3) := by decide +kernel
theorem dX10_move_74 : decode cX10_move 74 = .ok (.bipush (-2), 2) := by decide +kernel
theorem dX10_move_76 : decode cX10_move 76 = .ok (.ireturn, 1) := by decide +kernel
theorem dX10_move_77 : decode cX10_move 77 = .ok (.aload 4, 2) := by decide +kernel
theorem dX10_move_79 : decode cX10_move 79 = .ok (.iload_n 3, 1) := by decide +kernel
theorem dX10_move_80 : decode cX10_move 80 = .ok (.putfield 125, 3) := by decide +kernel
theorem dX10_move_83 : decode cX10_move 83 = .ok (.goto 28, 3) := by decide +kernel
theorem dX10_move_86 : decode cX10_move 86 = .ok (.iload_n 3, 1) := by decide +kernel
theorem dX10_move_87 : decode cX10_move 87 = .ok (.aload 4, 2) := by decide +kernel
theorem dX10_move_89 : decode cX10_move 89 = .ok (.getfield 125, 3) := by decide +kernel
theorem dX10_move_92 : decode cX10_move 92 = .ok (.iconst 1, 1) := by decide +kernel
theorem dX10_move_93 : decode cX10_move 93 = .ok (.iadd, 1) := by decide +kernel
theorem dX10_move_94 : decode cX10_move 94 = .ok (.bipush 100, 2) := by decide +kernel
theorem dX10_move_96 : decode cX10_move 96 = .ok (.invokestatic 82, 3) := by decide +kernel
theorem dX10_move_99 : decode cX10_move 99 = .ok (.ifCond .ne 6, 3) := by decide +kernel
theorem dX10_move_102 : decode cX10_move 102 = .ok (.bipush (-2), 2) := by decide +kernel
theorem dX10_move_104 : decode cX10_move 104 = .ok (.ireturn, 1) := by decide +kernel
theorem dX10_move_105 : decode cX10_move 105 = .ok (.aload 4, 2) := by decide +kernel
theorem dX10_move_107 : decode cX10_move 107 = .ok (.iload_n 3, 1) := by decide +kernel
theorem dX10_move_108 : decode cX10_move 108 = .ok (.putfield 128, 3) := by decide +kernel
theorem dX10_move_111 : decode cX10_move 111 = .ok (.aload_n 0, 1) := by decide +kernel
theorem dX10_move_112 : decode cX10_move 112 = .ok (.getfield 26, 3) := by decide +kernel
theorem dX10_move_115 : decode cX10_move 115 = .ok (.invokevirtual 131, 3) := by decide +kernel
theorem dX10_move_118 : decode cX10_move 118 = .ok (.iload 5, 2) := by decide +kernel
theorem dX10_move_120 : decode cX10_move 120 = .ok (.ireturn, 1) := by decide +kernel
theorem dX10_of_0 : decode cX10_of 0 = .ok (.aload_n 0, 1) := by decide +kernel
theorem dX10_of_1 : decode cX10_of 1 = .ok (.getfield 26, 3) := by decide +kernel
theorem dX10_of_4 : decode cX10_of 4 = .ok (.iload_n 1, 1) := by decide +kernel
theorem dX10_of_5 : decode cX10_of 5 = .ok (.invokevirtual 111, 3) := by decide +kernel
theorem dX10_of_8 : decode cX10_of 8 = .ok (.ifCond .ne 5, 3) := by decide +kernel
theorem dX10_of_11 : decode cX10_of 11 = .ok (.iconst (-1), 1) := by decide +kernel
theorem dX10_of_12 : decode cX10_of 12 = .ok (.ireturn, 1) := by decide +kernel
theorem dX10_of_13 : decode cX10_of 13 = .ok (.aload_n 0, 1) := by decide +kernel
theorem dX10_of_14 : decode cX10_of 14 = .ok (.getfield 26, 3) := by decide +kernel
theorem dX10_of_17 : decode cX10_of 17 = .ok (.getfield 114, 3) := by decide +kernel
theorem dX10_of_20 : decode cX10_of 20 = .ok (.iload_n 1, 1) := by decide +kernel
theorem dX10_of_21 : decode cX10_of 21 = .ok (.aaload, 1) := by decide +kernel
theorem dX10_of_22 : decode cX10_of 22 = .ok (.astore_n 3, 1) := by decide +kernel
theorem dX10_of_23 : decode cX10_of 23 = .ok (.iload_n 2, 1) := by decide +kernel
theorem dX10_of_24 : decode cX10_of 24 = .ok (.tableswitch 114 0 9 #[56, 61, 66, 71, 76, 81, 94, 99, 104, 109], 56) := by decide +kernel
theorem dX10_of_80 : decode cX10_of 80 = .ok (.aload_n 3, 1) := by decide +kernel
theorem dX10_of_81 : decode cX10_of 81 = .ok (.getfield 125, 3) := by decide +kernel
theorem dX10_of_84 : decode cX10_of 84 = .ok (.ireturn, 1) := by decide +kernel
theorem dX10_of_85 : decode cX10_of 85 = .ok (.aload_n 3, 1) := by decide +kernel
theorem dX10_of_86 : decode cX10_of 86 = .ok (.getfield 128, 3) := by decide +kernel
theorem dX10_of_89 : decode cX10_of 89 = .ok (.ireturn, 1) := by decide +kernel
theorem dX10_of_90 : decode cX10_of 90 = .ok (.aload_n 3, 1) := by decide +kernel
theorem dX10_of_91 : decode cX10_of 91 = .ok (.getfield 122, 3) := by decide +kernel
theorem dX10_of_94 : decode cX10_of 94 = .ok (.ireturn, 1) := by decide +kernel
theorem dX10_of_95 : decode cX10_of 95 = .ok (.aload_n 3, 1) := by decide +kernel
theorem dX10_of_96 : decode cX10_of 96 = .ok (.getfield 134, 3) := by decide +kernel
theorem dX10_of_99 : decode cX10_of 99 = .ok (.ireturn, 1) := by decide +kernel
theorem dX10_of_100 : decode cX10_of 100 = .ok (.aload_n 3, 1) := by decide +kernel
theorem dX10_of_101 : decode cX10_of 101 = .ok (.getfield 137, 3) := by decide +kernel
theorem dX10_of_104 : decode cX10_of 104 = .ok (.ireturn, 1) := by decide +kernel
theorem dX10_of_105 : decode cX10_of 105 = .ok (.aload_n 3, 1) := by decide +kernel
theorem dX10_of_106 : decode cX10_of 106 = .ok (.getfield 140, 3) := by decide +kernel
theorem dX10_of_109 : decode cX10_of 109 = .ok (.ifCond .eq 7, 3) := by decide +kernel
theorem dX10_of_112 : decode cX10_of 112 = .ok (.iconst 1, 1) := by decide +kernel
theorem dX10_of_113 : decode cX10_of 113 = .ok (.goto 4, 3) := by decide +kernel
theorem dX10_of_116 : decode cX10_of 116 = .ok (.iconst 0, 1) := by decide +kernel
theorem dX10_of_117 : decode cX10_of 117 = .ok (.ireturn, 1) := by decide +kernel
theorem dX10_of_118 : decode cX10_of 118 = .ok (.aload_n 3, 1) := by decide +kernel
theorem dX10_of_119 : decode cX10_of 119 = .ok (.getfield 144, 3) := by decide +kernel
theorem dX10_of_122 : decode cX10_of 122 = .ok (.ireturn, 1) := by decide +kernel
theorem dX10_of_123 : decode cX10_of 123 = .ok (.aload_n 3, 1) := by decide +kernel
theorem dX10_of_124 : decode cX10_of 124 = .ok (.getfield 147, 3) := by decide +kernel
theorem dX10_of_127 : decode cX10_of 127 = .ok (.ireturn, 1) := by decide +kernel
theorem dX10_of_128 : decode cX10_of 128 = .ok (.aload_n 3, 1) := by decide +kernel
theorem dX10_of_129 : decode cX10_of 129 = .ok (.getfield 150, 3) := by decide +kernel
theorem dX10_of_132 : decode cX10_of 132 = .ok (.ireturn, 1) := by decide +kernel
theorem dX10_of_133 : decode cX10_of 133 = .ok (.aload_n 3, 1) := by decide +kernel
theorem dX10_of_134 : decode cX10_of 134 = .ok (.getfield 153, 3) := by decide +kernel
theorem dX10_of_137 : decode cX10_of 137 = .ok (.ireturn, 1) := by decide +kernel
theorem dX10_of_138 : decode cX10_of 138 = .ok (.bipush (-2), 2) := by decide +kernel
theorem dX10_of_140 : decode cX10_of 140 = .ok (.ireturn, 1) := by decide +kernel
theorem dX10_part_0 : decode cX10_part 0 = .ok (.aload_n 0, 1) := by decide +kernel
theorem dX10_part_1 : decode cX10_part 1 = .ok (.getfield 26, 3) := by decide +kernel
theorem dX10_part_4 : decode cX10_part 4 = .ok (.iload_n 1, 1) := by decide +kernel
theorem dX10_part_5 : decode cX10_part 5 = .ok (.invokevirtual 111, 3) := by decide +kernel
theorem dX10_part_8 : decode cX10_part 8 = .ok (.ifCond .ne 5, 3) := by decide +kernel
theorem dX10_part_11 : decode cX10_part 11 = .ok (.iconst (-1), 1) := by decide +kernel
theorem dX10_part_12 : decode cX10_part 12 = .ok (.ireturn, 1) := by decide +kernel
theorem dX10_part_13 : decode cX10_part 13 = .ok (.aload_n 0, 1) := by decide +kernel
theorem dX10_part_14 : decode cX10_part 14 = .ok (.getfield 26, 3) := by decide +kernel
theorem dX10_part_17 : decode cX10_part 17 = .ok (.getfield 114, 3) := by decide +kernel
theorem dX10_part_20 : decode cX10_part 20 = .ok (.iload_n 1, 1) := by decide +kernel
theorem dX10_part_21 : decode cX10_part 21 = .ok (.aaload, 1) := by decide +kernel
theorem dX10_part_22 : decode cX10_part 22 = .ok (.astore 4, 2) := by decide +kernel
theorem dX10_part_24 : decode cX10_part 24 = .ok (.iload_n 2, 1) := by decide +kernel
theorem dX10_part_25 : decode cX10_part 25 = .ok (.iconst 0, 1) := by decide +kernel
theorem dX10_part_26 : decode cX10_part 26 = .ok (.aload 4, 2) := by decide +kernel
theorem dX10_part_28 : decode cX10_part 28 = .ok (.getfield 122, 3) := by decide +kernel
theorem dX10_part_31 : decode cX10_part 31 = .ok (.iconst 1, 1) := by decide +kernel
theorem dX10_part_32 : decode cX10_part 32 = .ok (.isub, 1) := by decide +kernel
theorem dX10_part_33 : decode cX10_part 33 = .ok (.invokestatic 82, 3) := by decide +kernel
theorem dX10_part_36 : decode cX10_part 36 = .ok (.ifCond .ne 5, 3) := by decide +kernel
theorem dX10_part_39 : decode cX10_part 39 = .ok (.iconst (-1), 1) := by decide +kernel
theorem dX10_part_40 : decode cX10_part 40 = .ok (.ireturn, 1) := by decide +kernel
theorem dX10_part_41 : decode cX10_part 41 = .ok (.iload_n 3, 1) := by decide +kernel
theorem dX10_part_42 : decode cX10_part 42 = .ok (.iconst 0, 1) := by decide +kernel
theorem dX10_part_43 : decode cX10_part 43 = .ok (.iconst 1, 1) := by decide +kernel
theorem dX10_part_44 : decode cX10_part 44 = .ok (.invokestatic 82, 3) := by decide +kernel
theorem dX10_part_47 : decode cX10_part 47 = .ok (.ifCond .ne 6, 3) := by decide +kernel
theorem dX10_part_50 : decode cX10_part 50 = .ok (.bipush (-2), 2) := by decide +kernel
theorem dX10_part_52 : decode cX10_part 52 = .ok (.ireturn, 1) := by decide +kernel
theorem dX10_part_53 : decode cX10_part 53 = .ok (.iload_n 3, 1) := by decide +kernel
theorem dX10_part_54 : decode cX10_part 54 = .ok (.ifCond .ne 13, 3) := by decide +kernel
theorem dX10_part_57 : decode cX10_part 57 = .ok (.aload 4, 2) := by decide +kernel
theorem dX10_part_59 : decode cX10_part 59 = .ok (.getfield 156, 3) := by decide +kernel
theorem dX10_part_62 : decode cX10_part 62 = .ok (.iload_n 2, 1) := by decide +kernel
theorem dX10_part_63 : decode cX10_part 63 = .ok (.iaload, 1) := by decide +kernel
theorem dX10_part_64 : decode cX10_part 64 = .ok (.goto 10, 3) := by decide +kernel
theorem dX10_part_67 : decode cX10_part 67 = .ok (.aload 4, 2) := by decide +kernel
theorem dX10_part_69 : decode cX10_part 69 = .ok (.getfield 160, 3) := by decide +kernel
theorem dX10_part_72 : decode cX10_part 72 = .ok (.iload_n 2, 1) := by decide +kernel
theorem dX10_part_73 : decode cX10_part 73 = .ok (.iaload, 1) := by decide +kernel
theorem dX10_part_74 : decode cX10_part 74 = .ok (.ireturn, 1) := by decide +kernel
theorem dX10_force_0 : decode cX10_force 0 = .ok (.iload_n 1, 1) := by decide +kernel
theorem dX10_force_1 : decode cX10_force 1 = .ok (.invokestatic 101, 3) := by decide +kernel
theorem dX10_force_4 : decode cX10_force 4 = .ok (.ifCond .eq 12, 3) := by decide +kernel
theorem dX10_force_7 : decode cX10_force 7 = .ok (.iload_n 2, 1) := by decide +kernel
theorem dX10_force_8 : decode cX10_force 8 = .ok (.iconst 0, 1) := by decide +kernel
theorem dX10_force_9 : decode cX10_force 9 = .ok (.iconst 2, 1) := by decide +kernel
theorem dX10_force_10 : decode cX10_force 10 = .ok (.invokestatic 82, 3) := by decide +kernel
theorem dX10_force_13 : decode cX10_force 13 = .ok (.ifCond .ne 6, 3) := by decide +kernel
theorem dX10_force_16 : decode cX10_force 16 = .ok (.bipush (-2), 2) := by decide +kernel
theorem dX10_force_18 : decode cX10_force 18 = .ok (.ireturn, 1) := by decide +kernel
theorem dX10_force_19 : decode cX10_force 19 = .ok (.iload_n 2, 1) := by decide +kernel
theorem dX10_force_20 : decode cX10_force 20 = .ok (.ifCond .ne 12, 3) := by decide +kernel
theorem dX10_force_23 : decode cX10_force 23 = .ok (.aload_n 0, 1) := by decide +kernel
theorem dX10_force_24 : decode cX10_force 24 = .ok (.getfield 26, 3) := by decide +kernel
theorem dX10_force_27 : decode cX10_force 27 = .ok (.iload_n 1, 1) := by decide +kernel
theorem dX10_force_28 : decode cX10_force 28 = .ok (.invokevirtual 163, 3) := by decide +kernel
theorem dX10_force_31 : decode cX10_force 31 = .ok (.ireturn, 1) := by decide +kernel
theorem dX10_force_32 : decode cX10_force 32 = .ok (.aload_n 0, 1) := by decide +kernel
theorem dX10_force_33 : decode cX10_force 33 = .ok (.getfield 26, 3) := by decide +kernel
theorem dX10_force_36 : decode cX10_force 36 = .ok (.iload_n 1, 1) := by decide +kernel
theorem dX10_force_37 : decode cX10_force 37 = .ok (.invokevirtual 167, 3) := by decide +kernel
theorem dX10_force_40 : decode cX10_force 40 = .ok (.istore_n 3, 1) := by decide +kernel
theorem dX10_force_41 : decode cX10_force 41 = .ok (.iload_n 2, 1) := by decide +kernel
theorem dX10_force_42 : decode cX10_force 42 = .ok (.iconst 1, 1) := by decide +kernel
theorem dX10_force_43 : decode cX10_force 43 = .ok (.if_icmp .ne 7, 3) := by decide +kernel
theorem dX10_force_46 : decode cX10_force 46 = .ok (.iload_n 3, 1) := by decide +kernel
theorem dX10_force_47 : decode cX10_force 47 = .ok (.goto 15, 3) := by decide +kernel
theorem dX10_force_50 : decode cX10_force 50 = .ok (.aload_n 0, 1) := by decide +kernel
theorem dX10_force_51 : decode cX10_force 51 = .ok (.getfield 26, 3) := by decide +kernel
theorem dX10_force_54 : decode cX10_force 54 = .ok (.iload_n 1, 1) := by decide +kernel
theorem dX10_force_55 : decode cX10_force 55 = .ok (.invokevirtual 163, 3) := by decide +kernel
theorem dX10_force_58 : decode cX10_force 58 = .ok (.iload_n 3, 1) := by decide +kernel
theorem dX10_force_59 : decode cX10_force 59 = .ok (.iconst (-1), 1) := by decide +kernel
theorem dX10_force_60 : decode cX10_force 60 = .ok (.ixor, 1) := by decide +kernel
theorem dX10_force_61 : decode cX10_force 61 = .ok (.iand, 1) := by decide +kernel
theorem dX10_force_62 : decode cX10_force 62 = .ok (.ireturn, 1) := by decide +kernel
theorem dX10_open_0 : decode cX10_open 0 = .ok (.iload_n 1, 1) := by decide +kernel
theorem dX10_open_1 : decode cX10_open 1 = .ok (.iconst (-1), 1) := by decide +kernel
theorem dX10_open_2 : decode cX10_open 2 = .ok (.if_icmp .ne 13, 3) := by decide +kernel
theorem dX10_open_5 : decode cX10_open 5 = .ok (.aload_n 0, 1) := by decide +kernel
theorem dX10_open_6 : decode cX10_open 6 = .ok (.getfield 64, 3) := by decide +kernel
theorem dX10_open_9 : decode cX10_open 9 = .ok (.invokevirtual 170, 3) := by decide +kernel
theorem dX10_open_12 : decode cX10_open 12 = .ok (.goto 11, 3) := by decide +kernel
theorem dX10_open_15 : decode cX10_open 15 = .ok (.aload_n 0, 1) := by decide +kernel
theorem dX10_open_16 : decode cX10_open 16 = .ok (.getfield 64, 3) := by decide +kernel
theorem dX10_open_19 : decode cX10_open 19 = .ok (.iload_n 1, 1) := by decide +kernel
theorem dX10_open_20 : decode cX10_open 20 = .ok (.invokevirtual 173, 3) := by decide +kernel
theorem dX10_open_23 : decode cX10_open 23 = .ok (.ireturn, 1) := by decide +kernel
theorem dX10_piece_0 : decode cX10_piece 0 = .ok (.iload_n 1, 1) := by decide +kernel
theorem dX10_piece_1 : decode cX10_piece 1 = .ok (.invokestatic 101, 3) := by decide +kernel
theorem dX10_piece_4 : decode cX10_piece 4 = .ok (.ifCond .eq 10, 3) := by decide +kernel
theorem dX10_piece_7 : decode cX10_piece 7 = .ok (.iload_n 2, 1) := by decide +kernel
theorem dX10_piece_8 : decode cX10_piece 8 = .ok (.invokestatic 176, 3) := by decide +kernel
theorem dX10_piece_11 : decode cX10_piece 11 = .ok (.ifCond .ne 6, 3) := by decide +kernel
theorem dX10_piece_14 : decode cX10_piece 14 = .ok (.bipush (-2), 2) := by decide +kernel
theorem dX10_piece_16 : decode cX10_piece 16 = .ok (.ireturn, 1) := by decide +kernel
theorem dX10_piece_17 : decode cX10_piece 17 = .ok (.aload_n 0, 1) := by decide +kernel
theorem dX10_piece_18 : decode cX10_piece 18 = .ok (.getfield 26, 3) := by decide +kernel
theorem dX10_piece_21 : decode cX10_piece 21 = .ok (.getfield 179, 3) := by decide +kernel
theorem dX10_piece_24 : decode cX10_piece 24 = .ok (.bipush 8, 2) := by decide +kernel
theorem dX10_piece_26 : decode cX10_piece 26 = .ok (.if_icmp .lt 6, 3) := by decide +kernel
theorem dX10_piece_29 : decode cX10_piece 29 = .ok (.bipush (-4), 2) := by decide +kernel
theorem dX10_piece_31 : decode cX10_piece 31 = .ok (.ireturn, 1) := by decide +kernel
theorem dX10_piece_32 : decode cX10_piece 32 = .ok (.aload_n 0, 1) := by decide +kernel
theorem dX10_piece_33 : decode cX10_piece 33 = .ok (.getfield 26, 3) := by decide +kernel
theorem dX10_piece_36 : decode cX10_piece 36 = .ok (.iload_n 1, 1) := by decide +kernel
theorem dX10_piece_37 : decode cX10_piece 37 = .ok (.iload_n 2, 1) := by decide +kernel
theorem dX10_piece_38 : decode cX10_piece 38 = .ok (.invokevirtual 182, 3) := by decide +kernel
theorem dX10_piece_41 : decode cX10_piece 41 = .ok (.ireturn, 1) := by decide +kernel
theorem dX10_about_0 : decode cX10_about 0 = .ok (.aload_n 0, 1) := by decide +kernel
theorem dX10_about_1 : decode cX10_about 1 = .ok (.getfield 26, 3) := by decide +kernel
theorem dX10_about_4 : decode cX10_about 4 = .ok (.iload_n 1, 1) := by decide +kernel
theorem dX10_about_5 : decode cX10_about 5 = .ok (.invokevirtual 186, 3) := by decide +kernel
theorem dX10_about_8 : decode cX10_about 8 = .ok (.ifCond .ne 5, 3) := by decide +kernel
theorem dX10_about_11 : decode cX10_about 11 = .ok (.iconst (-1), 1) := by decide +kernel
theorem dX10_about_12 : decode cX10_about 12 = .ok (.ireturn, 1) := by decide +kernel
theorem dX10_about_13 : decode cX10_about 13 = .ok (.aload_n 0, 1) := by decide +kernel
theorem dX10_about_14 : decode cX10_about 14 = .ok (.getfield 26, 3) := by decide +kernel
theorem dX10_about_17 : decode cX10_about 17 = .ok (.getfield 189, 3) := by decide +kernel
theorem dX10_about_20 : decode cX10_about 20 = .ok (.iload_n 1, 1) := by decide +kernel
theorem dX10_about_21 : decode cX10_about 21 = .ok (.aaload, 1) := by decide +kernel
theorem dX10_about_22 : decode cX10_about 22 = .ok (.astore_n 3, 1) := by decide +kernel
theorem dX10_about_23 : decode cX10_about 23 = .ok (.iload_n 2, 1) := by decide +kernel
theorem dX10_about_24 : decode cX10_about 24 = .ok (.tableswitch 61 0 4 #[36, 41, 46, 51, 56], 36) := by decide +kernel
theorem dX10_about_60 : decode cX10_about 60 = .ok (.aload_n 3, 1) := by decide +kernel
theorem dX10_about_61 : decode cX10_about 61 = .ok (.getfield 193, 3) := by decide +kernel
theorem dX10_about_64 : decode cX10_about 64 = .ok (.ireturn, 1) := by decide +kernel
theorem dX10_about_65 : decode cX10_about 65 = .ok (.aload_n 3, 1) := by decide +kernel
theorem dX10_about_66 : decode cX10_about 66 = .ok (.getfield 198, 3) := by decide +kernel
theorem dX10_about_69 : decode cX10_about 69 = .ok (.ireturn, 1) := by decide +kernel
theorem dX10_about_70 : decode cX10_about 70 = .ok (.aload_n 3, 1) := by decide +kernel
theorem dX10_about_71 : decode cX10_about 71 = .ok (.getfield 201, 3) := by decide +kernel
theorem dX10_about_74 : decode cX10_about 74 = .ok (.ireturn, 1) := by decide +kernel
theorem dX10_about_75 : decode cX10_about 75 = .ok (.aload_n 3, 1) := by decide +kernel
theorem dX10_about_76 : decode cX10_about 76 = .ok (.getfield 204, 3) := by decide +kernel
theorem dX10_about_79 : decode cX10_about 79 = .ok (.ireturn, 1) := by decide +kernel
theorem dX10_about_80 : decode cX10_about 80 = .ok (.aload_n 3, 1) := by decide +kernel
theorem dX10_about_81 : decode cX10_about 81 = .ok (.getfield 207, 3) := by decide +kernel
theorem dX10_about_84 : decode cX10_about 84 = .ok (.ireturn, 1) := by decide +kernel
theorem dX10_about_85 : decode cX10_about 85 = .ok (.bipush (-2), 2) := by decide +kernel
theorem dX10_about_87 : decode cX10_about 87 = .ok (.ireturn, 1) := by decide +kernel
theorem dX10_change_0 : decode cX10_change 0 = .ok (.aload_n 0, 1) := by decide +kernel
theorem dX10_change_1 : decode cX10_change 1 = .ok (.getfield 26, 3) := by decide +kernel
theorem dX10_change_4 : decode cX10_change 4 = .ok (.iload_n 1, 1) := by decide +kernel
theorem dX10_change_5 : decode cX10_change 5 = .ok (.invokevirtual 186, 3) := by decide +kernel
theorem dX10_change_8 : decode cX10_change 8 = .ok (.ifCond .ne 5, 3) := by decide +kernel
theorem dX10_change_11 : decode cX10_change 11 = .ok (.iconst (-1), 1) := by decide +kernel
theorem dX10_change_12 : decode cX10_change 12 = .ok (.ireturn, 1) := by decide +kernel
theorem dX10_change_13 : decode cX10_change 13 = .ok (.iload_n 2, 1) := by decide +kernel
theorem dX10_change_14 : decode cX10_change 14 = .ok (.iconst 1, 1) := by decide +kernel
theorem dX10_change_15 : decode cX10_change 15 = .ok (.iconst 3, 1) := by decide +kernel
theorem dX10_change_16 : decode cX10_change 16 = .ok (.invokestatic 82, 3) := by decide +kernel
theorem dX10_change_19 : decode cX10_change 19 = .ok (.ifCond .ne 6, 3) := by decide +kernel
theorem dX10_change_22 : decode cX10_change 22 = .ok (.bipush (-2), 2) := by decide +kernel
theorem dX10_change_24 : decode cX10_change 24 = .ok (.ireturn, 1) := by decide +kernel
theorem dX10_change_25 : decode cX10_change 25 = .ok (.aload_n 0, 1) := by decide +kernel
theorem dX10_change_26 : decode cX10_change 26 = .ok (.getfield 26, 3) := by decide +kernel
theorem dX10_change_29 : decode cX10_change 29 = .ok (.getfield 189, 3) := by decide +kernel
theorem dX10_change_32 : decode cX10_change 32 = .ok (.iload_n 1, 1) := by decide +kernel
theorem dX10_change_33 : decode cX10_change 33 = .ok (.aaload, 1) := by decide +kernel
theorem dX10_change_34 : decode cX10_change 34 = .ok (.astore 4, 2) := by decide +kernel
theorem dX10_change_36 : decode cX10_change 36 = .ok (.iload_n 2, 1) := by decide +kernel
theorem dX10_change_37 : decode cX10_change 37 = .ok (.iconst 3, 1) := by decide +kernel
theorem dX10_change_38 : decode cX10_change 38 = .ok (.if_icmp .ne 29, 3) := by decide +kernel
theorem dX10_change_41 : decode cX10_change 41 = .ok (.iload_n 3, 1) := by decide +kernel
theorem dX10_change_42 : decode cX10_change 42 = .ok (.invokestatic 176, 3) := by decide +kernel
theorem dX10_change_45 : decode cX10_change 45 = .ok (.ifCond .ne 6, 3) := by decide +kernel
theorem dX10_change_48 : decode cX10_change 48 = .ok (.bipush (-2), 2) := by decide +kernel
theorem dX10_change_50 : decode cX10_change 50 = .ok (.ireturn, 1) := by decide +kernel
theorem dX10_change_51 : decode cX10_change 51 = .ok (.aload 4, 2) := by decide +kernel
theorem dX10_change_53 : decode cX10_change 53 = .ok (.getfield 204, 3) := by decide +kernel
theorem dX10_change_56 : decode cX10_change 56 = .ok (.istore 5, 2) := by decide +kernel
theorem dX10_change_58 : decode cX10_change 58 = .ok (.aload 4, 2) := by decide +kernel
theorem dX10_change_60 : decode cX10_change 60 = .ok (.iload_n 3, 1) := by decide +kernel
theorem dX10_change_61 : decode cX10_change 61 = .ok (.putfield 204, 3) := by decide +kernel
theorem dX10_change_64 : decode cX10_change 64 = .ok (.iload 5, 2) := by decide +kernel
theorem dX10_change_66 : decode cX10_change 66 = .ok (.ireturn, 1) := by decide +kernel
theorem dX10_change_67 : decode cX10_change 67 = .ok (.iload_n 3, 1) := by decide +kernel
theorem dX10_change_68 : decode cX10_change 68 = .ok (.iconst (-1), 1) := by decide +kernel
theorem dX10_change_69 : decode cX10_change 69 = .ok (.if_icmp .eq 20, 3) := by decide +kernel
theorem dX10_change_72 : decode cX10_change 72 = .ok (.iload_n 3, 1) := by decide +kernel
theorem dX10_change_73 : decode cX10_change 73 = .ok (.aload 4, 2) := by decide +kernel
theorem dX10_change_75 : decode cX10_change 75 = .ok (.getfield 193, 3) := by decide +kernel
theorem dX10_change_78 : decode cX10_change 78 = .ok (.bipush 99, 2) := by decide +kernel
theorem dX10_change_80 : decode cX10_change 80 = .ok (.invokestatic 82, 3) := by decide +kernel
theorem dX10_change_83 : decode cX10_change 83 = .ok (.ifCond .ne 6, 3) := by decide +kernel
theorem dX10_change_86 : decode cX10_change 86 = .ok (.bipush (-2), 2) := by decide +kernel
theorem dX10_change_88 : decode cX10_change 88 = .ok (.ireturn, 1) := by decide +kernel
theorem dX10_change_89 : decode cX10_change 89 = .ok (.iload_n 3, 1) := by decide +kernel
theorem dX10_change_90 : decode cX10_change 90 = .ok (.iconst (-1), 1) := by decide +kernel
theorem dX10_change_91 : decode cX10_change 91 = .ok (.if_icmp .ne 8, 3) := by decide +kernel
theorem dX10_change_94 : decode cX10_change 94 = .ok (.bipush (-6), 2) := by decide +kernel
theorem dX10_change_96 : decode cX10_change 96 = .ok (.goto 4, 3) := by decide +kernel
theorem dX10_change_99 : decode cX10_change 99 = .ok (.iload_n 3, 1) := by decide +kernel
theorem dX10_change_100 : decode cX10_change 100 = .ok (.istore 6, 2) := by decide +kernel
theorem dX10_change_102 : decode cX10_change 102 = .ok (.iload_n 2, 1) := by decide +kernel
theorem dX10_change_103 : decode cX10_change 103 = .ok (.iconst 1, 1) := by decide +kernel
theorem dX10_change_104 : decode cX10_change 104 = .ok (.if_icmp .ne 20, 3) := by decide +kernel
theorem dX10_change_107 : decode cX10_change 107 = .ok (.aload 4, 2) := by decide +kernel
theorem dX10_change_109 : decode cX10_change 109 = .ok (.getfield 198, 3) := by decide +kernel
theorem dX10_change_112 : decode cX10_change 112 = .ok (.istore 5, 2) := by decide +kernel
theorem dX10_change_114 : decode cX10_change 114 = .ok (.aload 4, 2) := by decide +kernel
theorem dX10_change_116 : decode cX10_change 116 = .ok (.iload 6, 2) := by decide +kernel
theorem dX10_change_118 : decode cX10_change 118 = .ok (.putfield 198, 3) := by decide +kernel
theorem dX10_change_121 : decode cX10_change 121 = .ok (.goto 17, 3) := by decide +kernel
theorem dX10_change_124 : decode cX10_change 124 = .ok (.aload 4, 2) := by decide +kernel
theorem dX10_change_126 : decode cX10_change 126 = .ok (.getfield 201, 3) := by decide +kernel
theorem dX10_change_129 : decode cX10_change 129 = .ok (.istore 5, 2) := by decide +kernel
theorem dX10_change_131 : decode cX10_change 131 = .ok (.aload 4, 2) := by decide +kernel
theorem dX10_change_133 : decode cX10_change 133 = .ok (.iload 6, 2) := by decide +kernel
theorem dX10_change_135 : decode cX10_change 135 = .ok (.putfield 201, 3) := by decide +kernel
theorem dX10_change_138 : decode cX10_change 138 = .ok (.iload 5, 2) := by decide +kernel
theorem dX10_change_140 : decode cX10_change 140 = .ok (.ireturn, 1) := by decide +kernel
theorem dX10_set_0 : decode cX10_set 0 = .ok (.iload_n 1, 1) := by decide +kernel
theorem dX10_set_1 : decode cX10_set 1 = .ok (.iconst 0, 1) := by decide +kernel
theorem dX10_set_2 : decode cX10_set 2 = .ok (.iconst 2, 1) := by decide +kernel
theorem dX10_set_3 : decode cX10_set 3 = .ok (.invokestatic 82, 3) := by decide +kernel
theorem dX10_set_6 : decode cX10_set 6 = .ok (.ifCond .eq 12, 3) := by decide +kernel
theorem dX10_set_9 : decode cX10_set 9 = .ok (.iload_n 2, 1) := by decide +kernel
theorem dX10_set_10 : decode cX10_set 10 = .ok (.iconst 0, 1) := by decide +kernel
theorem dX10_set_11 : decode cX10_set 11 = .ok (.iconst 1, 1) := by decide +kernel
theorem dX10_set_12 : decode cX10_set 12 = .ok (.invokestatic 82, 3) := by decide +kernel
theorem dX10_set_15 : decode cX10_set 15 = .ok (.ifCond .ne 6, 3) := by decide +kernel
theorem dX10_set_18 : decode cX10_set 18 = .ok (.bipush (-2), 2) := by decide +kernel
theorem dX10_set_20 : decode cX10_set 20 = .ok (.ireturn, 1) := by decide +kernel
theorem dX10_set_21 : decode cX10_set 21 = .ok (.iload_n 1, 1) := by decide +kernel
theorem dX10_set_22 : decode cX10_set 22 = .ok (.ifCond .ne 22, 3) := by decide +kernel
theorem dX10_set_25 : decode cX10_set 25 = .ok (.aload_n 0, 1) := by decide +kernel
theorem dX10_set_26 : decode cX10_set 26 = .ok (.getfield 26, 3) := by decide +kernel
theorem dX10_set_29 : decode cX10_set 29 = .ok (.getfield 210, 3) := by decide +kernel
theorem dX10_set_32 : decode cX10_set 32 = .ok (.istore_n 3, 1) := by decide +kernel
theorem dX10_set_33 : decode cX10_set 33 = .ok (.aload_n 0, 1) := by decide +kernel
theorem dX10_set_34 : decode cX10_set 34 = .ok (.getfield 26, 3) := by decide +kernel
theorem dX10_set_37 : decode cX10_set 37 = .ok (.iload_n 2, 1) := by decide +kernel
theorem dX10_set_38 : decode cX10_set 38 = .ok (.putfield 210, 3) := by decide +kernel
theorem dX10_set_41 : decode cX10_set 41 = .ok (.goto 43, 3) := by decide +kernel
theorem dX10_set_44 : decode cX10_set 44 = .ok (.iload_n 1, 1) := by decide +kernel
theorem dX10_set_45 : decode cX10_set 45 = .ok (.iconst 1, 1) := by decide +kernel
theorem dX10_set_46 : decode cX10_set 46 = .ok (.if_icmp .ne 22, 3) := by decide +kernel
theorem dX10_set_49 : decode cX10_set 49 = .ok (.aload_n 0, 1) := by decide +kernel
theorem dX10_set_50 : decode cX10_set 50 = .ok (.getfield 26, 3) := by decide +kernel
theorem dX10_set_53 : decode cX10_set 53 = .ok (.getfield 213, 3) := by decide +kernel
theorem dX10_set_56 : decode cX10_set 56 = .ok (.istore_n 3, 1) := by decide +kernel
theorem dX10_set_57 : decode cX10_set 57 = .ok (.aload_n 0, 1) := by decide +kernel
theorem dX10_set_58 : decode cX10_set 58 = .ok (.getfield 26, 3) := by decide +kernel
theorem dX10_set_61 : decode cX10_set 61 = .ok (.iload_n 2, 1) := by decide +kernel
theorem dX10_set_62 : decode cX10_set 62 = .ok (.putfield 213, 3) := by decide +kernel
theorem dX10_set_65 : decode cX10_set 65 = .ok (.goto 19, 3) := by decide +kernel
theorem dX10_set_68 : decode cX10_set 68 = .ok (.aload_n 0, 1) := by decide +kernel
theorem dX10_set_69 : decode cX10_set 69 = .ok (.getfield 26, 3) := by decide +kernel
theorem dX10_set_72 : decode cX10_set 72 = .ok (.getfield 216, 3) := by decide +kernel
theorem dX10_set_75 : decode cX10_set 75 = .ok (.istore_n 3, 1) := by decide +kernel
theorem dX10_set_76 : decode cX10_set 76 = .ok (.aload_n 0, 1) := by decide +kernel
theorem dX10_set_77 : decode cX10_set 77 = .ok (.getfield 26, 3) := by decide +kernel
theorem dX10_set_80 : decode cX10_set 80 = .ok (.iload_n 2, 1) := by decide +kernel
theorem dX10_set_81 : decode cX10_set 81 = .ok (.putfield 216, 3) := by decide +kernel
theorem dX10_set_84 : decode cX10_set 84 = .ok (.iload_n 3, 1) := by decide +kernel
theorem dX10_set_85 : decode cX10_set 85 = .ok (.ireturn, 1) := by decide +kernel
theorem dX10_meets_0 : decode cX10_meets 0 = .ok (.aload_n 0, 1) := by decide +kernel
theorem dX10_meets_1 : decode cX10_meets 1 = .ok (.iload_n 1, 1) := by decide +kernel
theorem dX10_meets_2 : decode cX10_meets 2 = .ok (.iload_n 2, 1) := by decide +kernel
theorem dX10_meets_3 : decode cX10_meets 3 = .ok (.iload_n 3, 1) := by decide +kernel
theorem dX10_meets_4 : decode cX10_meets 4 = .ok (.invokevirtual 219, 3) := by decide +kernel
theorem dX10_meets_7 : decode cX10_meets 7 = .ok (.istore 4, 2) := by decide +kernel
theorem dX10_meets_9 : decode cX10_meets 9 = .ok (.iload 4, 2) := by decide +kernel
theorem dX10_meets_11 : decode cX10_meets 11 = .ok (.ifCond .eq 6, 3) := by decide +kernel
theorem dX10_meets_14 : decode cX10_meets 14 = .ok (.iload 4, 2) := by decide +kernel
theorem dX10_meets_16 : decode cX10_meets 16 = .ok (.ireturn, 1) := by decide +kernel
theorem dX10_meets_17 : decode cX10_meets 17 = .ok (.aload_n 0, 1) := by decide +kernel
theorem dX10_meets_18 : decode cX10_meets 18 = .ok (.getfield 26, 3) := by decide +kernel
theorem dX10_meets_21 : decode cX10_meets 21 = .ok (.getfield 189, 3) := by decide +kernel
theorem dX10_meets_24 : decode cX10_meets 24 = .ok (.iload_n 2, 1) := by decide +kernel
theorem dX10_meets_25 : decode cX10_meets 25 = .ok (.aaload, 1) := by decide +kernel
theorem dX10_meets_26 : decode cX10_meets 26 = .ok (.astore 5, 2) := by decide +kernel
theorem dX10_meets_28 : decode cX10_meets 28 = .ok (.aload 5, 2) := by decide +kernel
theorem dX10_meets_30 : decode cX10_meets 30 = .ok (.iload_n 3, 1) := by decide +kernel
theorem dX10_meets_31 : decode cX10_meets 31 = .ok (.invokevirtual 223, 3) := by decide +kernel
theorem dX10_meets_34 : decode cX10_meets 34 = .ok (.istore 6, 2) := by decide +kernel
theorem dX10_meets_36 : decode cX10_meets 36 = .ok (.aload_n 0, 1) := by decide +kernel
theorem dX10_meets_37 : decode cX10_meets 37 = .ok (.getfield 46, 3) := by decide +kernel
theorem dX10_meets_40 : decode cX10_meets 40 = .ok (.iload_n 1, 1) := by decide +kernel
theorem dX10_meets_41 : decode cX10_meets 41 = .ok (.aload 5, 2) := by decide +kernel
theorem dX10_meets_43 : decode cX10_meets 43 = .ok (.iload 6, 2) := by decide +kernel
theorem dX10_meets_45 : decode cX10_meets 45 = .ok (.aload_n 0, 1) := by decide +kernel
theorem dX10_meets_46 : decode cX10_meets 46 = .ok (.getfield 26, 3) := by decide +kernel
theorem dX10_meets_49 : decode cX10_meets 49 = .ok (.iload 6, 2) := by decide +kernel
theorem dX10_meets_51 : decode cX10_meets 51 = .ok (.invokevirtual 167, 3) := by decide +kernel
theorem dX10_meets_54 : decode cX10_meets 54 = .ok (.invokevirtual 226, 3) := by decide +kernel
theorem dX10_meets_57 : decode cX10_meets 57 = .ok (.ifCond .ne 7, 3) := by decide +kernel
theorem dX10_meets_60 : decode cX10_meets 60 = .ok (.iconst 1, 1) := by decide +kernel
theorem dX10_meets_61 : decode cX10_meets 61 = .ok (.goto 4, 3) := by decide +kernel
theorem dX10_meets_64 : decode cX10_meets 64 = .ok (.iconst 0, 1) := by decide +kernel
theorem dX10_meets_65 : decode cX10_meets 65 = .ok (.ireturn, 1) := by decide +kernel
theorem dX10_why_0 : decode cX10_why 0 = .ok (.aload_n 0, 1) := by decide +kernel
theorem dX10_why_1 : decode cX10_why 1 = .ok (.iload_n 1, 1) := by decide +kernel
theorem dX10_why_2 : decode cX10_why 2 = .ok (.iload_n 2, 1) := by decide +kernel
theorem dX10_why_3 : decode cX10_why 3 = .ok (.iload_n 3, 1) := by decide +kernel
theorem dX10_why_4 : decode cX10_why 4 = .ok (.invokevirtual 219, 3) := by decide +kernel
theorem dX10_why_7 : decode cX10_why 7 = .ok (.istore 4, 2) := by decide +kernel
theorem dX10_why_9 : decode cX10_why 9 = .ok (.iload 4, 2) := by decide +kernel
theorem dX10_why_11 : decode cX10_why 11 = .ok (.ifCond .eq 6, 3) := by decide +kernel
theorem dX10_why_14 : decode cX10_why 14 = .ok (.iload 4, 2) := by decide +kernel
theorem dX10_why_16 : decode cX10_why 16 = .ok (.ireturn, 1) := by decide +kernel
theorem dX10_why_17 : decode cX10_why 17 = .ok (.aload_n 0, 1) := by decide +kernel
theorem dX10_why_18 : decode cX10_why 18 = .ok (.getfield 26, 3) := by decide +kernel
theorem dX10_why_21 : decode cX10_why 21 = .ok (.getfield 189, 3) := by decide +kernel
theorem dX10_why_24 : decode cX10_why 24 = .ok (.iload_n 2, 1) := by decide +kernel
theorem dX10_why_25 : decode cX10_why 25 = .ok (.aaload, 1) := by decide +kernel
theorem dX10_why_26 : decode cX10_why 26 = .ok (.astore 5, 2) := by decide +kernel
theorem dX10_why_28 : decode cX10_why 28 = .ok (.aload 5, 2) := by decide +kernel
theorem dX10_why_30 : decode cX10_why 30 = .ok (.iload_n 3, 1) := by decide +kernel
theorem dX10_why_31 : decode cX10_why 31 = .ok (.invokevirtual 223, 3) := by decide +kernel
theorem dX10_why_34 : decode cX10_why 34 = .ok (.istore 6, 2) := by decide +kernel
theorem dX10_why_36 : decode cX10_why 36 = .ok (.aload_n 0, 1) := by decide +kernel
theorem dX10_why_37 : decode cX10_why 37 = .ok (.getfield 46, 3) := by decide +kernel
theorem dX10_why_40 : decode cX10_why 40 = .ok (.aload 5, 2) := by decide +kernel
theorem dX10_why_42 : decode cX10_why 42 = .ok (.iload 6, 2) := by decide +kernel
theorem dX10_why_44 : decode cX10_why 44 = .ok (.invokevirtual 230, 3) := by decide +kernel
theorem dX10_why_47 : decode cX10_why 47 = .ok (.iload_n 1, 1) := by decide +kernel
theorem dX10_why_48 : decode cX10_why 48 = .ok (.if_icmp .ne 5, 3) := by decide +kernel
theorem dX10_why_51 : decode cX10_why 51 = .ok (.iconst 0, 1) := by decide +kernel
theorem dX10_why_52 : decode cX10_why 52 = .ok (.ireturn, 1) := by decide +kernel
theorem dX10_why_53 : decode cX10_why 53 = .ok (.aload_n 0, 1) := by decide +kernel
theorem dX10_why_54 : decode cX10_why 54 = .ok (.getfield 46, 3) := by decide +kernel
theorem dX10_why_57 : decode cX10_why 57 = .ok (.iload_n 1, 1) := by decide +kernel
theorem dX10_why_58 : decode cX10_why 58 = .ok (.aload 5, 2) := by decide +kernel
theorem dX10_why_60 : decode cX10_why 60 = .ok (.iload 6, 2) := by decide +kernel
theorem dX10_why_62 : decode cX10_why 62 = .ok (.aload_n 0, 1) := by decide +kernel
theorem dX10_why_63 : decode cX10_why 63 = .ok (.getfield 26, 3) := by decide +kernel
theorem dX10_why_66 : decode cX10_why 66 = .ok (.iload 6, 2) := by decide +kernel
theorem dX10_why_68 : decode cX10_why 68 = .ok (.invokevirtual 167, 3) := by decide +kernel
theorem dX10_why_71 : decode cX10_why 71 = .ok (.invokevirtual 226, 3) := by decide +kernel
theorem dX10_why_74 : decode cX10_why 74 = .ok (.istore 7, 2) := by decide +kernel
theorem dX10_why_76 : decode cX10_why 76 = .ok (.iload 7, 2) := by decide +kernel
theorem dX10_why_78 : decode cX10_why 78 = .ok (.ifCond .ne 8, 3) := by decide +kernel
theorem dX10_why_81 : decode cX10_why 81 = .ok (.bipush 6, 2) := by decide +kernel
theorem dX10_why_83 : decode cX10_why 83 = .ok (.goto 5, 3) := by decide +kernel
theorem dX10_why_86 : decode cX10_why 86 = .ok (.iload 7, 2) := by decide +kernel
theorem dX10_why_88 : decode cX10_why 88 = .ok (.ireturn, 1) := by decide +kernel
theorem dX10_governs_0 : decode cX10_governs 0 = .ok (.aload_n 0, 1) := by decide +kernel
theorem dX10_governs_1 : decode cX10_governs 1 = .ok (.iload_n 1, 1) := by decide +kernel
theorem dX10_governs_2 : decode cX10_governs 2 = .ok (.iload_n 2, 1) := by decide +kernel
theorem dX10_governs_3 : decode cX10_governs 3 = .ok (.invokevirtual 234, 3) := by decide +kernel
theorem dX10_governs_6 : decode cX10_governs 6 = .ok (.istore_n 3, 1) := by decide +kernel
theorem dX10_governs_7 : decode cX10_governs 7 = .ok (.iload_n 3, 1) := by decide +kernel
theorem dX10_governs_8 : decode cX10_governs 8 = .ok (.ifCond .eq 5, 3) := by decide +kernel
theorem dX10_governs_11 : decode cX10_governs 11 = .ok (.iload_n 3, 1) := by decide +kernel
theorem dX10_governs_12 : decode cX10_governs 12 = .ok (.ireturn, 1) := by decide +kernel
theorem dX10_governs_13 : decode cX10_governs 13 = .ok (.aload_n 0, 1) := by decide +kernel
theorem dX10_governs_14 : decode cX10_governs 14 = .ok (.getfield 26, 3) := by decide +kernel
theorem dX10_governs_17 : decode cX10_governs 17 = .ok (.getfield 189, 3) := by decide +kernel
theorem dX10_governs_20 : decode cX10_governs 20 = .ok (.iload_n 1, 1) := by decide +kernel
theorem dX10_governs_21 : decode cX10_governs 21 = .ok (.aaload, 1) := by decide +kernel
theorem dX10_governs_22 : decode cX10_governs 22 = .ok (.astore 4, 2) := by decide +kernel
theorem dX10_governs_24 : decode cX10_governs 24 = .ok (.aload_n 0, 1) := by decide +kernel
theorem dX10_governs_25 : decode cX10_governs 25 = .ok (.getfield 46, 3) := by decide +kernel
theorem dX10_governs_28 : decode cX10_governs 28 = .ok (.aload 4, 2) := by decide +kernel
theorem dX10_governs_30 : decode cX10_governs 30 = .ok (.aload 4, 2) := by decide +kernel
theorem dX10_governs_32 : decode cX10_governs 32 = .ok (.iload_n 2, 1) := by decide +kernel
theorem dX10_governs_33 : decode cX10_governs 33 = .ok (.invokevirtual 223, 3) := by decide +kernel
theorem dX10_governs_36 : decode cX10_governs 36 = .ok (.invokevirtual 230, 3) := by decide +kernel
theorem dX10_governs_39 : decode cX10_governs 39 = .ok (.ireturn, 1) := by decide +kernel
theorem dX10_those_0 : decode cX10_those 0 = .ok (.iload_n 1, 1) := by decide +kernel
theorem dX10_those_1 : decode cX10_those 1 = .ok (.invokestatic 101, 3) := by decide +kernel
theorem dX10_those_4 : decode cX10_those 4 = .ok (.ifCond .eq 12, 3) := by decide +kernel
theorem dX10_those_7 : decode cX10_those 7 = .ok (.iload_n 2, 1) := by decide +kernel
theorem dX10_those_8 : decode cX10_those 8 = .ok (.iconst 0, 1) := by decide +kernel
theorem dX10_those_9 : decode cX10_those 9 = .ok (.iconst 3, 1) := by decide +kernel
theorem dX10_those_10 : decode cX10_those 10 = .ok (.invokestatic 82, 3) := by decide +kernel
theorem dX10_those_13 : decode cX10_those 13 = .ok (.ifCond .ne 6, 3) := by decide +kernel
theorem dX10_those_16 : decode cX10_those 16 = .ok (.bipush (-2), 2) := by decide +kernel
theorem dX10_those_18 : decode cX10_those 18 = .ok (.ireturn, 1) := by decide +kernel
theorem dX10_those_19 : decode cX10_those 19 = .ok (.iconst 0, 1) := by decide +kernel
theorem dX10_those_20 : decode cX10_those 20 = .ok (.istore_n 3, 1) := by decide +kernel
theorem dX10_those_21 : decode cX10_those 21 = .ok (.iconst 0, 1) := by decide +kernel
theorem dX10_those_22 : decode cX10_those 22 = .ok (.istore 4, 2) := by decide +kernel
theorem dX10_those_24 : decode cX10_those 24 = .ok (.iload 4, 2) := by decide +kernel
theorem dX10_those_26 : decode cX10_those 26 = .ok (.aload_n 0, 1) := by decide +kernel
theorem dX10_those_27 : decode cX10_those 27 = .ok (.getfield 26, 3) := by decide +kernel
theorem dX10_those_30 : decode cX10_those 30 = .ok (.getfield 179, 3) := by decide +kernel
theorem dX10_those_33 : decode cX10_those 33 = .ok (.if_icmp .ge 38, 3) := by decide +kernel
theorem dX10_those_36 : decode cX10_those 36 = .ok (.aload_n 0, 1) := by decide +kernel
theorem dX10_those_37 : decode cX10_those 37 = .ok (.getfield 46, 3) := by decide +kernel
theorem dX10_those_40 : decode cX10_those 40 = .ok (.aload_n 0, 1) := by decide +kernel
theorem dX10_those_41 : decode cX10_those 41 = .ok (.getfield 26, 3) := by decide +kernel
theorem dX10_those_44 : decode cX10_those 44 = .ok (.getfield 189, 3) := by decide +kernel
theorem dX10_those_47 : decode cX10_those 47 = .ok (.iload 4, 2) := by decide +kernel
theorem dX10_those_49 : decode cX10_those 49 = .ok (.aaload, 1) := by decide +kernel
theorem dX10_those_50 : decode cX10_those 50 = .ok (.iload_n 1, 1) := by decide +kernel
theorem dX10_those_51 : decode cX10_those 51 = .ok (.iload_n 2, 1) := by decide +kernel
theorem dX10_those_52 : decode cX10_those 52 = .ok (.invokevirtual 237, 3) := by decide +kernel
theorem dX10_those_55 : decode cX10_those 55 = .ok (.ifCond .eq 10, 3) := by decide +kernel
theorem dX10_those_58 : decode cX10_those 58 = .ok (.iload_n 3, 1) := by decide +kernel
theorem dX10_those_59 : decode cX10_those 59 = .ok (.iconst 1, 1) := by decide +kernel
theorem dX10_those_60 : decode cX10_those 60 = .ok (.iload 4, 2) := by decide +kernel
theorem dX10_those_62 : decode cX10_those 62 = .ok (.ishl, 1) := by decide +kernel
theorem dX10_those_63 : decode cX10_those 63 = .ok (.ior, 1) := by decide +kernel
theorem dX10_those_64 : decode cX10_those 64 = .ok (.istore_n 3, 1) := by decide +kernel
theorem dX10_those_65 : decode cX10_those 65 = .ok (.iinc 4 1, 3) := by decide +kernel
theorem dX10_those_68 : decode cX10_those 68 = .ok (.goto (-44), 3) := by decide +kernel
theorem dX10_those_71 : decode cX10_those 71 = .ok (.iload_n 3, 1) := by decide +kernel
theorem dX10_those_72 : decode cX10_those 72 = .ok (.ireturn, 1) := by decide +kernel
theorem dX10_gives_0 : decode cX10_gives 0 = .ok (.aload_n 0, 1) := by decide +kernel
theorem dX10_gives_1 : decode cX10_gives 1 = .ok (.iload_n 1, 1) := by decide +kernel
theorem dX10_gives_2 : decode cX10_gives 2 = .ok (.iload_n 2, 1) := by decide +kernel
theorem dX10_gives_3 : decode cX10_gives 3 = .ok (.invokevirtual 234, 3) := by decide +kernel
theorem dX10_gives_6 : decode cX10_gives 6 = .ok (.istore_n 3, 1) := by decide +kernel
theorem dX10_gives_7 : decode cX10_gives 7 = .ok (.iload_n 3, 1) := by decide +kernel
theorem dX10_gives_8 : decode cX10_gives 8 = .ok (.ifCond .eq 7, 3) := by decide +kernel
theorem dX10_gives_11 : decode cX10_gives 11 = .ok (.iload_n 3, 1) := by decide +kernel
theorem dX10_gives_12 : decode cX10_gives 12 = .ok (.goto 20, 3) := by decide +kernel
theorem dX10_gives_15 : decode cX10_gives 15 = .ok (.aload_n 0, 1) := by decide +kernel
theorem dX10_gives_16 : decode cX10_gives 16 = .ok (.getfield 46, 3) := by decide +kernel
theorem dX10_gives_19 : decode cX10_gives 19 = .ok (.aload_n 0, 1) := by decide +kernel
theorem dX10_gives_20 : decode cX10_gives 20 = .ok (.getfield 26, 3) := by decide +kernel
theorem dX10_gives_23 : decode cX10_gives 23 = .ok (.getfield 189, 3) := by decide +kernel
theorem dX10_gives_26 : decode cX10_gives 26 = .ok (.iload_n 1, 1) := by decide +kernel
theorem dX10_gives_27 : decode cX10_gives 27 = .ok (.aaload, 1) := by decide +kernel
theorem dX10_gives_28 : decode cX10_gives 28 = .ok (.iload_n 2, 1) := by decide +kernel
theorem dX10_gives_29 : decode cX10_gives 29 = .ok (.invokevirtual 241, 3) := by decide +kernel
theorem dX10_gives_32 : decode cX10_gives 32 = .ok (.ireturn, 1) := by decide +kernel
theorem dX10_route_0 : decode cX10_route 0 = .ok (.aload_n 0, 1) := by decide +kernel
theorem dX10_route_1 : decode cX10_route 1 = .ok (.iload_n 1, 1) := by decide +kernel
theorem dX10_route_2 : decode cX10_route 2 = .ok (.iload_n 2, 1) := by decide +kernel
theorem dX10_route_3 : decode cX10_route 3 = .ok (.invokevirtual 234, 3) := by decide +kernel
theorem dX10_route_6 : decode cX10_route 6 = .ok (.istore 4, 2) := by decide +kernel
theorem dX10_route_8 : decode cX10_route 8 = .ok (.iload 4, 2) := by decide +kernel
theorem dX10_route_10 : decode cX10_route 10 = .ok (.ifCond .eq 6, 3) := by decide +kernel
theorem dX10_route_13 : decode cX10_route 13 = .ok (.iload 4, 2) := by decide +kernel
theorem dX10_route_15 : decode cX10_route 15 = .ok (.ireturn, 1) := by decide +kernel
theorem dX10_route_16 : decode cX10_route 16 = .ok (.aload_n 0, 1) := by decide +kernel
theorem dX10_route_17 : decode cX10_route 17 = .ok (.getfield 26, 3) := by decide +kernel
theorem dX10_route_20 : decode cX10_route 20 = .ok (.getfield 189, 3) := by decide +kernel
theorem dX10_route_23 : decode cX10_route 23 = .ok (.iload_n 1, 1) := by decide +kernel
theorem dX10_route_24 : decode cX10_route 24 = .ok (.aaload, 1) := by decide +kernel
theorem dX10_route_25 : decode cX10_route 25 = .ok (.astore 5, 2) := by decide +kernel
theorem dX10_route_27 : decode cX10_route 27 = .ok (.aload 5, 2) := by decide +kernel
theorem dX10_route_29 : decode cX10_route 29 = .ok (.iload_n 2, 1) := by decide +kernel
theorem dX10_route_30 : decode cX10_route 30 = .ok (.invokevirtual 223, 3) := by decide +kernel
theorem dX10_route_33 : decode cX10_route 33 = .ok (.istore 6, 2) := by decide +kernel
theorem dX10_route_35 : decode cX10_route 35 = .ok (.aload_n 0, 1) := by decide +kernel
theorem dX10_route_36 : decode cX10_route 36 = .ok (.getfield 46, 3) := by decide +kernel
theorem dX10_route_39 : decode cX10_route 39 = .ok (.aload 5, 2) := by decide +kernel
theorem dX10_route_41 : decode cX10_route 41 = .ok (.aload_n 0, 1) := by decide +kernel
theorem dX10_route_42 : decode cX10_route 42 = .ok (.getfield 46, 3) := by decide +kernel
theorem dX10_route_45 : decode cX10_route 45 = .ok (.aload 5, 2) := by decide +kernel
theorem dX10_route_47 : decode cX10_route 47 = .ok (.iload 6, 2) := by decide +kernel
theorem dX10_route_49 : decode cX10_route 49 = .ok (.invokevirtual 230, 3) := by decide +kernel
theorem dX10_route_52 : decode cX10_route 52 = .ok (.iload 6, 2) := by decide +kernel
theorem dX10_route_54 : decode cX10_route 54 = .ok (.invokevirtual 244, 3) := by decide +kernel
theorem dX10_route_57 : decode cX10_route 57 = .ok (.pop, 1) := by decide +kernel
theorem dX10_route_58 : decode cX10_route 58 = .ok (.iload_n 3, 1) := by decide +kernel
theorem dX10_route_59 : decode cX10_route 59 = .ok (.iconst (-1), 1) := by decide +kernel
theorem dX10_route_60 : decode cX10_route 60 = .ok (.if_icmp .ne 11, 3) := by decide +kernel
theorem dX10_route_63 : decode cX10_route 63 = .ok (.aload_n 0, 1) := by decide +kernel
theorem dX10_route_64 : decode cX10_route 64 = .ok (.getfield 46, 3) := by decide +kernel
theorem dX10_route_67 : decode cX10_route 67 = .ok (.getfield 248, 3) := by decide +kernel
theorem dX10_route_70 : decode cX10_route 70 = .ok (.ireturn, 1) := by decide +kernel
theorem dX10_route_71 : decode cX10_route 71 = .ok (.iload_n 3, 1) := by decide +kernel
theorem dX10_route_72 : decode cX10_route 72 = .ok (.iconst 0, 1) := by decide +kernel
theorem dX10_route_73 : decode cX10_route 73 = .ok (.aload_n 0, 1) := by decide +kernel
theorem dX10_route_74 : decode cX10_route 74 = .ok (.getfield 46, 3) := by decide +kernel
theorem dX10_route_77 : decode cX10_route 77 = .ok (.getfield 248, 3) := by decide +kernel
theorem dX10_route_80 : decode cX10_route 80 = .ok (.iconst 1, 1) := by decide +kernel
theorem dX10_route_81 : decode cX10_route 81 = .ok (.isub, 1) := by decide +kernel
theorem dX10_route_82 : decode cX10_route 82 = .ok (.invokestatic 82, 3) := by decide +kernel
theorem dX10_route_85 : decode cX10_route 85 = .ok (.ifCond .eq 15, 3) := by decide +kernel
theorem dX10_route_88 : decode cX10_route 88 = .ok (.aload_n 0, 1) := by decide +kernel
theorem dX10_route_89 : decode cX10_route 89 = .ok (.getfield 46, 3) := by decide +kernel
theorem dX10_route_92 : decode cX10_route 92 = .ok (.getfield 251, 3) := by decide +kernel
theorem dX10_route_95 : decode cX10_route 95 = .ok (.iload_n 3, 1) := by decide +kernel
theorem dX10_route_96 : decode cX10_route 96 = .ok (.iaload, 1) := by decide +kernel
theorem dX10_route_97 : decode cX10_route 97 = .ok (.goto 5, 3) := by decide +kernel
theorem dX10_route_100 : decode cX10_route 100 = .ok (.bipush (-6), 2) := by decide +kernel
theorem dX10_route_102 : decode cX10_route 102 = .ok (.ireturn, 1) := by decide +kernel
theorem dX10_sum_0 : decode cX10_sum 0 = .ok (.iload_n 1, 1) := by decide +kernel
theorem dX10_sum_1 : decode cX10_sum 1 = .ok (.invokestatic 101, 3) := by decide +kernel
theorem dX10_sum_4 : decode cX10_sum 4 = .ok (.ifCond .ne 6, 3) := by decide +kernel
theorem dX10_sum_7 : decode cX10_sum 7 = .ok (.bipush (-2), 2) := by decide +kernel
theorem dX10_sum_9 : decode cX10_sum 9 = .ok (.ireturn, 1) := by decide +kernel
theorem dX10_sum_10 : decode cX10_sum 10 = .ok (.iconst 0, 1) := by decide +kernel
theorem dX10_sum_11 : decode cX10_sum 11 = .ok (.istore_n 2, 1) := by decide +kernel
theorem dX10_sum_12 : decode cX10_sum 12 = .ok (.iconst 0, 1) := by decide +kernel
theorem dX10_sum_13 : decode cX10_sum 13 = .ok (.istore_n 3, 1) := by decide +kernel
theorem dX10_sum_14 : decode cX10_sum 14 = .ok (.iload_n 3, 1) := by decide +kernel
theorem dX10_sum_15 : decode cX10_sum 15 = .ok (.aload_n 0, 1) := by decide +kernel
theorem dX10_sum_16 : decode cX10_sum 16 = .ok (.getfield 26, 3) := by decide +kernel
theorem dX10_sum_19 : decode cX10_sum 19 = .ok (.getfield 179, 3) := by decide +kernel
theorem dX10_sum_22 : decode cX10_sum 22 = .ok (.if_icmp .ge 38, 3) := by decide +kernel
theorem dX10_sum_25 : decode cX10_sum 25 = .ok (.aload_n 0, 1) := by decide +kernel
theorem dX10_sum_26 : decode cX10_sum 26 = .ok (.getfield 46, 3) := by decide +kernel
theorem dX10_sum_29 : decode cX10_sum 29 = .ok (.aload_n 0, 1) := by decide +kernel
theorem dX10_sum_30 : decode cX10_sum 30 = .ok (.getfield 26, 3) := by decide +kernel
theorem dX10_sum_33 : decode cX10_sum 33 = .ok (.getfield 189, 3) := by decide +kernel
theorem dX10_sum_36 : decode cX10_sum 36 = .ok (.iload_n 3, 1) := by decide +kernel
theorem dX10_sum_37 : decode cX10_sum 37 = .ok (.aaload, 1) := by decide +kernel
theorem dX10_sum_38 : decode cX10_sum 38 = .ok (.iload_n 1, 1) := by decide +kernel
theorem dX10_sum_39 : decode cX10_sum 39 = .ok (.invokevirtual 241, 3) := by decide +kernel
theorem dX10_sum_42 : decode cX10_sum 42 = .ok (.istore 4, 2) := by decide +kernel
theorem dX10_sum_44 : decode cX10_sum 44 = .ok (.iload 4, 2) := by decide +kernel
theorem dX10_sum_46 : decode cX10_sum 46 = .ok (.ifCond .lt 8, 3) := by decide +kernel
theorem dX10_sum_49 : decode cX10_sum 49 = .ok (.iload_n 2, 1) := by decide +kernel
theorem dX10_sum_50 : decode cX10_sum 50 = .ok (.iload 4, 2) := by decide +kernel
theorem dX10_sum_52 : decode cX10_sum 52 = .ok (.iadd, 1) := by decide +kernel
theorem dX10_sum_53 : decode cX10_sum 53 = .ok (.istore_n 2, 1) := by decide +kernel
theorem dX10_sum_54 : decode cX10_sum 54 = .ok (.iinc 3 1, 3) := by decide +kernel
theorem dX10_sum_57 : decode cX10_sum 57 = .ok (.goto (-43), 3) := by decide +kernel
theorem dX10_sum_60 : decode cX10_sum 60 = .ok (.iload_n 2, 1) := by decide +kernel
theorem dX10_sum_61 : decode cX10_sum 61 = .ok (.ireturn, 1) := by decide +kernel
theorem dX10_passage_0 : decode cX10_passage 0 = .ok (.aload_n 0, 1) := by decide +kernel
theorem dX10_passage_1 : decode cX10_passage 1 = .ok (.getfield 26, 3) := by decide +kernel
theorem dX10_passage_4 : decode cX10_passage 4 = .ok (.iload_n 1, 1) := by decide +kernel
theorem dX10_passage_5 : decode cX10_passage 5 = .ok (.invokevirtual 186, 3) := by decide +kernel
theorem dX10_passage_8 : decode cX10_passage 8 = .ok (.ifCond .ne 5, 3) := by decide +kernel
theorem dX10_passage_11 : decode cX10_passage 11 = .ok (.iconst (-1), 1) := by decide +kernel
theorem dX10_passage_12 : decode cX10_passage 12 = .ok (.ireturn, 1) := by decide +kernel
theorem dX10_passage_13 : decode cX10_passage 13 = .ok (.iload_n 3, 1) := by decide +kernel
theorem dX10_passage_14 : decode cX10_passage 14 = .ok (.iconst 0, 1) := by decide +kernel
theorem dX10_passage_15 : decode cX10_passage 15 = .ok (.iconst 1, 1) := by decide +kernel
theorem dX10_passage_16 : decode cX10_passage 16 = .ok (.invokestatic 82, 3) := by decide +kernel
theorem dX10_passage_19 : decode cX10_passage 19 = .ok (.ifCond .ne 6, 3) := by decide +kernel
theorem dX10_passage_22 : decode cX10_passage 22 = .ok (.bipush (-2), 2) := by decide +kernel
theorem dX10_passage_24 : decode cX10_passage 24 = .ok (.ireturn, 1) := by decide +kernel
theorem dX10_passage_25 : decode cX10_passage 25 = .ok (.iload_n 2, 1) := by decide +kernel
theorem dX10_passage_26 : decode cX10_passage 26 = .ok (.iconst (-1), 1) := by decide +kernel
theorem dX10_passage_27 : decode cX10_passage 27 = .ok (.if_icmp .ge 6, 3) := by decide +kernel
theorem dX10_passage_30 : decode cX10_passage 30 = .ok (.bipush (-6), 2) := by decide +kernel
theorem dX10_passage_32 : decode cX10_passage 32 = .ok (.ireturn, 1) := by decide +kernel
theorem dX10_passage_33 : decode cX10_passage 33 = .ok (.aload_n 0, 1) := by decide +kernel
theorem dX10_passage_34 : decode cX10_passage 34 = .ok (.getfield 55, 3) := by decide +kernel
theorem dX10_passage_37 : decode cX10_passage 37 = .ok (.aload_n 0, 1) := by decide +kernel
theorem dX10_passage_38 : decode cX10_passage 38 = .ok (.getfield 26, 3) := by decide +kernel
theorem dX10_passage_41 : decode cX10_passage 41 = .ok (.getfield 189, 3) := by decide +kernel
theorem dX10_passage_44 : decode cX10_passage 44 = .ok (.iload_n 1, 1) := by decide +kernel
theorem dX10_passage_45 : decode cX10_passage 45 = .ok (.aaload, 1) := by decide +kernel
theorem dX10_passage_46 : decode cX10_passage 46 = .ok (.iload_n 2, 1) := by decide +kernel
theorem dX10_passage_47 : decode cX10_passage 47 = .ok (.invokevirtual 254, 3) := by decide +kernel
theorem dX10_passage_50 : decode cX10_passage 50 = .ok (.istore 4, 2) := by decide +kernel
theorem dX10_passage_52 : decode cX10_passage 52 = .ok (.iload_n 2, 1) := by decide +kernel
theorem dX10_passage_53 : decode cX10_passage 53 = .ok (.iconst (-1), 1) := by decide +kernel
theorem dX10_passage_54 : decode cX10_passage 54 = .ok (.if_icmp .ne 11, 3) := by decide +kernel
theorem dX10_passage_57 : decode cX10_passage 57 = .ok (.aload_n 0, 1) := by decide +kernel
theorem dX10_passage_58 : decode cX10_passage 58 = .ok (.getfield 55, 3) := by decide +kernel
theorem dX10_passage_61 : decode cX10_passage 61 = .ok (.getfield 258, 3) := by decide +kernel
theorem dX10_passage_64 : decode cX10_passage 64 = .ok (.ireturn, 1) := by decide +kernel
theorem dX10_passage_65 : decode cX10_passage 65 = .ok (.iload 4, 2) := by decide +kernel
theorem dX10_passage_67 : decode cX10_passage 67 = .ok (.ifCond .ne 6, 3) := by decide +kernel
theorem dX10_passage_70 : decode cX10_passage 70 = .ok (.bipush (-6), 2) := by decide +kernel
theorem dX10_passage_72 : decode cX10_passage 72 = .ok (.ireturn, 1) := by decide +kernel
theorem dX10_passage_73 : decode cX10_passage 73 = .ok (.iload_n 3, 1) := by decide +kernel
theorem dX10_passage_74 : decode cX10_passage 74 = .ok (.ifCond .ne 13, 3) := by decide +kernel
theorem dX10_passage_77 : decode cX10_passage 77 = .ok (.aload_n 0, 1) := by decide +kernel
theorem dX10_passage_78 : decode cX10_passage 78 = .ok (.getfield 55, 3) := by decide +kernel
theorem dX10_passage_81 : decode cX10_passage 81 = .ok (.getfield 261, 3) := by decide +kernel
theorem dX10_passage_84 : decode cX10_passage 84 = .ok (.goto 10, 3) := by decide +kernel
theorem dX10_passage_87 : decode cX10_passage 87 = .ok (.aload_n 0, 1) := by decide +kernel
theorem dX10_passage_88 : decode cX10_passage 88 = .ok (.getfield 55, 3) := by decide +kernel
theorem dX10_passage_91 : decode cX10_passage 91 = .ok (.getfield 264, 3) := by decide +kernel
theorem dX10_passage_94 : decode cX10_passage 94 = .ok (.ireturn, 1) := by decide +kernel
theorem dX10_term_0 : decode cX10_term 0 = .ok (.aload_n 0, 1) := by decide +kernel
theorem dX10_term_1 : decode cX10_term 1 = .ok (.iload_n 1, 1) := by decide +kernel
theorem dX10_term_2 : decode cX10_term 2 = .ok (.iload_n 2, 1) := by decide +kernel
theorem dX10_term_3 : decode cX10_term 3 = .ok (.invokevirtual 234, 3) := by decide +kernel
theorem dX10_term_6 : decode cX10_term 6 = .ok (.istore 4, 2) := by decide +kernel
theorem dX10_term_8 : decode cX10_term 8 = .ok (.iload 4, 2) := by decide +kernel
theorem dX10_term_10 : decode cX10_term 10 = .ok (.ifCond .eq 6, 3) := by decide +kernel
theorem dX10_term_13 : decode cX10_term 13 = .ok (.iload 4, 2) := by decide +kernel
theorem dX10_term_15 : decode cX10_term 15 = .ok (.ireturn, 1) := by decide +kernel
theorem dX10_term_16 : decode cX10_term 16 = .ok (.iload_n 3, 1) := by decide +kernel
theorem dX10_term_17 : decode cX10_term 17 = .ok (.iconst 0, 1) := by decide +kernel
theorem dX10_term_18 : decode cX10_term 18 = .ok (.iconst 1, 1) := by decide +kernel
theorem dX10_term_19 : decode cX10_term 19 = .ok (.invokestatic 82, 3) := by decide +kernel
theorem dX10_term_22 : decode cX10_term 22 = .ok (.ifCond .ne 6, 3) := by decide +kernel
theorem dX10_term_25 : decode cX10_term 25 = .ok (.bipush (-2), 2) := by decide +kernel
theorem dX10_term_27 : decode cX10_term 27 = .ok (.ireturn, 1) := by decide +kernel
theorem dX10_term_28 : decode cX10_term 28 = .ok (.iload_n 2, 1) := by decide +kernel
theorem dX10_term_29 : decode cX10_term 29 = .ok (.aload_n 0, 1) := by decide +kernel
theorem dX10_term_30 : decode cX10_term 30 = .ok (.getfield 26, 3) := by decide +kernel
theorem dX10_term_33 : decode cX10_term 33 = .ok (.getfield 189, 3) := by decide +kernel
theorem dX10_term_36 : decode cX10_term 36 = .ok (.iload_n 1, 1) := by decide +kernel
theorem dX10_term_37 : decode cX10_term 37 = .ok (.aaload, 1) := by decide +kernel
theorem dX10_term_38 : decode cX10_term 38 = .ok (.getfield 193, 3) := by decide +kernel
theorem dX10_term_41 : decode cX10_term 41 = .ok (.if_icmp .ge 6, 3) := by decide +kernel
theorem dX10_term_44 : decode cX10_term 44 = .ok (.bipush (-3), 2) := by decide +kernel
theorem dX10_term_46 : decode cX10_term 46 = .ok (.ireturn, 1) := by decide +kernel
theorem dX10_term_47 : decode cX10_term 47 = .ok (.aload_n 0, 1) := by decide +kernel
theorem dX10_term_48 : decode cX10_term 48 = .ok (.getfield 55, 3) := by decide +kernel
theorem dX10_term_51 : decode cX10_term 51 = .ok (.aload_n 0, 1) := by decide +kernel
theorem dX10_term_52 : decode cX10_term 52 = .ok (.getfield 26, 3) := by decide +kernel
theorem dX10_term_55 : decode cX10_term 55 = .ok (.getfield 189, 3) := by decide +kernel
theorem dX10_term_58 : decode cX10_term 58 = .ok (.iload_n 1, 1) := by decide +kernel
theorem dX10_term_59 : decode cX10_term 59 = .ok (.aaload, 1) := by decide +kernel
theorem dX10_term_60 : decode cX10_term 60 = .ok (.iload_n 2, 1) := by decide +kernel
theorem dX10_term_61 : decode cX10_term 61 = .ok (.invokevirtual 266, 3) := by decide +kernel
theorem dX10_term_64 : decode cX10_term 64 = .ok (.iload_n 3, 1) := by decide +kernel
theorem dX10_term_65 : decode cX10_term 65 = .ok (.ifCond .ne 13, 3) := by decide +kernel
theorem dX10_term_68 : decode cX10_term 68 = .ok (.aload_n 0, 1) := by decide +kernel
theorem dX10_term_69 : decode cX10_term 69 = .ok (.getfield 55, 3) := by decide +kernel
theorem dX10_term_72 : decode cX10_term 72 = .ok (.getfield 270, 3) := by decide +kernel
theorem dX10_term_75 : decode cX10_term 75 = .ok (.goto 10, 3) := by decide +kernel
theorem dX10_term_78 : decode cX10_term 78 = .ok (.aload_n 0, 1) := by decide +kernel
theorem dX10_term_79 : decode cX10_term 79 = .ok (.getfield 55, 3) := by decide +kernel
theorem dX10_term_82 : decode cX10_term 82 = .ok (.getfield 273, 3) := by decide +kernel
theorem dX10_term_85 : decode cX10_term 85 = .ok (.ireturn, 1) := by decide +kernel
theorem dX10_whole_0 : decode cX10_whole 0 = .ok (.aload_n 0, 1) := by decide +kernel
theorem dX10_whole_1 : decode cX10_whole 1 = .ok (.getfield 26, 3) := by decide +kernel
theorem dX10_whole_4 : decode cX10_whole 4 = .ok (.iload_n 1, 1) := by decide +kernel
theorem dX10_whole_5 : decode cX10_whole 5 = .ok (.invokevirtual 186, 3) := by decide +kernel
theorem dX10_whole_8 : decode cX10_whole 8 = .ok (.ifCond .ne 5, 3) := by decide +kernel
theorem dX10_whole_11 : decode cX10_whole 11 = .ok (.iconst (-1), 1) := by decide +kernel
theorem dX10_whole_12 : decode cX10_whole 12 = .ok (.ireturn, 1) := by decide +kernel
theorem dX10_whole_13 : decode cX10_whole 13 = .ok (.iload_n 2, 1) := by decide +kernel
theorem dX10_whole_14 : decode cX10_whole 14 = .ok (.iconst 0, 1) := by decide +kernel
theorem dX10_whole_15 : decode cX10_whole 15 = .ok (.getstatic 276, 3) := by decide +kernel
theorem dX10_whole_18 : decode cX10_whole 18 = .ok (.arraylength, 1) := by decide +kernel
theorem dX10_whole_19 : decode cX10_whole 19 = .ok (.iconst 1, 1) := by decide +kernel
theorem dX10_whole_20 : decode cX10_whole 20 = .ok (.isub, 1) := by decide +kernel
theorem dX10_whole_21 : decode cX10_whole 21 = .ok (.invokestatic 82, 3) := by decide +kernel
theorem dX10_whole_24 : decode cX10_whole 24 = .ok (.ifCond .ne 6, 3) := by decide +kernel
theorem dX10_whole_27 : decode cX10_whole 27 = .ok (.bipush (-2), 2) := by decide +kernel
theorem dX10_whole_29 : decode cX10_whole 29 = .ok (.ireturn, 1) := by decide +kernel
theorem dX10_whole_30 : decode cX10_whole 30 = .ok (.aload_n 0, 1) := by decide +kernel
theorem dX10_whole_31 : decode cX10_whole 31 = .ok (.getfield 55, 3) := by decide +kernel
theorem dX10_whole_34 : decode cX10_whole 34 = .ok (.aload_n 0, 1) := by decide +kernel
theorem dX10_whole_35 : decode cX10_whole 35 = .ok (.getfield 26, 3) := by decide +kernel
theorem dX10_whole_38 : decode cX10_whole 38 = .ok (.getfield 189, 3) := by decide +kernel
theorem dX10_whole_41 : decode cX10_whole 41 = .ok (.iload_n 1, 1) := by decide +kernel
theorem dX10_whole_42 : decode cX10_whole 42 = .ok (.aaload, 1) := by decide +kernel
theorem dX10_whole_43 : decode cX10_whole 43 = .ok (.getstatic 276, 3) := by decide +kernel
theorem dX10_whole_46 : decode cX10_whole 46 = .ok (.iload_n 2, 1) := by decide +kernel
theorem dX10_whole_47 : decode cX10_whole 47 = .ok (.iaload, 1) := by decide +kernel
theorem dX10_whole_48 : decode cX10_whole 48 = .ok (.invokevirtual 279, 3) := by decide +kernel
theorem dX10_whole_51 : decode cX10_whole 51 = .ok (.ireturn, 1) := by decide +kernel
theorem dX10_taken_0 : decode cX10_taken 0 = .ok (.aload_n 0, 1) := by decide +kernel
theorem dX10_taken_1 : decode cX10_taken 1 = .ok (.getfield 26, 3) := by decide +kernel
theorem dX10_taken_4 : decode cX10_taken 4 = .ok (.iload_n 1, 1) := by decide +kernel
theorem dX10_taken_5 : decode cX10_taken 5 = .ok (.invokevirtual 111, 3) := by decide +kernel
theorem dX10_taken_8 : decode cX10_taken 8 = .ok (.ifCond .eq 14, 3) := by decide +kernel
theorem dX10_taken_11 : decode cX10_taken 11 = .ok (.aload_n 0, 1) := by decide +kernel
theorem dX10_taken_12 : decode cX10_taken 12 = .ok (.getfield 46, 3) := by decide +kernel
theorem dX10_taken_15 : decode cX10_taken 15 = .ok (.iload_n 1, 1) := by decide +kernel
theorem dX10_taken_16 : decode cX10_taken 16 = .ok (.invokevirtual 282, 3) := by decide +kernel
theorem dX10_taken_19 : decode cX10_taken 19 = .ok (.goto 4, 3) := by decide +kernel
theorem dX10_taken_22 : decode cX10_taken 22 = .ok (.iconst (-1), 1) := by decide +kernel
theorem dX10_taken_23 : decode cX10_taken 23 = .ok (.ireturn, 1) := by decide +kernel
theorem dX10_brief_0 : decode cX10_brief 0 = .ok (.iload_n 1, 1) := by decide +kernel
theorem dX10_brief_1 : decode cX10_brief 1 = .ok (.iconst 0, 1) := by decide +kernel
theorem dX10_brief_2 : decode cX10_brief 2 = .ok (.iconst 1, 1) := by decide +kernel
theorem dX10_brief_3 : decode cX10_brief 3 = .ok (.invokestatic 82, 3) := by decide +kernel
theorem dX10_brief_6 : decode cX10_brief 6 = .ok (.ifCond .ne 6, 3) := by decide +kernel
theorem dX10_brief_9 : decode cX10_brief 9 = .ok (.bipush (-2), 2) := by decide +kernel
theorem dX10_brief_11 : decode cX10_brief 11 = .ok (.ireturn, 1) := by decide +kernel
theorem dX10_brief_12 : decode cX10_brief 12 = .ok (.aload_n 0, 1) := by decide +kernel
theorem dX10_brief_13 : decode cX10_brief 13 = .ok (.getfield 26, 3) := by decide +kernel
theorem dX10_brief_16 : decode cX10_brief 16 = .ok (.getfield 104, 3) := by decide +kernel
theorem dX10_brief_19 : decode cX10_brief 19 = .ok (.ifCond .ne 6, 3) := by decide +kernel
theorem dX10_brief_22 : decode cX10_brief 22 = .ok (.bipush (-3), 2) := by decide +kernel
theorem dX10_brief_24 : decode cX10_brief 24 = .ok (.ireturn, 1) := by decide +kernel
theorem dX10_brief_25 : decode cX10_brief 25 = .ok (.aload_n 0, 1) := by decide +kernel
theorem dX10_brief_26 : decode cX10_brief 26 = .ok (.getfield 26, 3) := by decide +kernel
theorem dX10_brief_29 : decode cX10_brief 29 = .ok (.invokevirtual 285, 3) := by decide +kernel
theorem dX10_brief_32 : decode cX10_brief 32 = .ok (.istore_n 2, 1) := by decide +kernel
theorem dX10_brief_33 : decode cX10_brief 33 = .ok (.iload_n 1, 1) := by decide +kernel
theorem dX10_brief_34 : decode cX10_brief 34 = .ok (.ifCond .ne 7, 3) := by decide +kernel
theorem dX10_brief_37 : decode cX10_brief 37 = .ok (.iload_n 2, 1) := by decide +kernel
theorem dX10_brief_38 : decode cX10_brief 38 = .ok (.goto 15, 3) := by decide +kernel
theorem dX10_brief_41 : decode cX10_brief 41 = .ok (.aload_n 0, 1) := by decide +kernel
theorem dX10_brief_42 : decode cX10_brief 42 = .ok (.getfield 26, 3) := by decide +kernel
theorem dX10_brief_45 : decode cX10_brief 45 = .ok (.getfield 114, 3) := by decide +kernel
theorem dX10_brief_48 : decode cX10_brief 48 = .ok (.iload_n 2, 1) := by decide +kernel
theorem dX10_brief_49 : decode cX10_brief 49 = .ok (.aaload, 1) := by decide +kernel
theorem dX10_brief_50 : decode cX10_brief 50 = .ok (.invokevirtual 288, 3) := by decide +kernel
theorem dX10_brief_53 : decode cX10_brief 53 = .ok (.ireturn, 1) := by decide +kernel
theorem dX10_caught_0 : decode cX10_caught 0 = .ok (.aload_n 0, 1) := by decide +kernel
theorem dX10_caught_1 : decode cX10_caught 1 = .ok (.getfield 26, 3) := by decide +kernel
theorem dX10_caught_4 : decode cX10_caught 4 = .ok (.iload_n 1, 1) := by decide +kernel
theorem dX10_caught_5 : decode cX10_caught 5 = .ok (.invokevirtual 111, 3) := by decide +kernel
theorem dX10_caught_8 : decode cX10_caught 8 = .ok (.ifCond .eq 14, 3) := by decide +kernel
theorem dX10_caught_11 : decode cX10_caught 11 = .ok (.aload_n 0, 1) := by decide +kernel
theorem dX10_caught_12 : decode cX10_caught 12 = .ok (.getfield 46, 3) := by decide +kernel
theorem dX10_caught_15 : decode cX10_caught 15 = .ok (.iload_n 1, 1) := by decide +kernel
theorem dX10_caught_16 : decode cX10_caught 16 = .ok (.invokevirtual 291, 3) := by decide +kernel
theorem dX10_caught_19 : decode cX10_caught 19 = .ok (.goto 4, 3) := by decide +kernel
theorem dX10_caught_22 : decode cX10_caught 22 = .ok (.iconst (-1), 1) := by decide +kernel
theorem dX10_caught_23 : decode cX10_caught 23 = .ok (.ireturn, 1) := by decide +kernel
theorem dX10_read_0 : decode cX10_read 0 = .ok (.aload_n 0, 1) := by decide +kernel
theorem dX10_read_1 : decode cX10_read 1 = .ok (.iload_n 1, 1) := by decide +kernel
theorem dX10_read_2 : decode cX10_read 2 = .ok (.iload_n 2, 1) := by decide +kernel
theorem dX10_read_3 : decode cX10_read 3 = .ok (.invokevirtual 234, 3) := by decide +kernel
theorem dX10_read_6 : decode cX10_read 6 = .ok (.istore 4, 2) := by decide +kernel
theorem dX10_read_8 : decode cX10_read 8 = .ok (.iload 4, 2) := by decide +kernel
theorem dX10_read_10 : decode cX10_read 10 = .ok (.ifCond .eq 6, 3) := by decide +kernel
theorem dX10_read_13 : decode cX10_read 13 = .ok (.iload 4, 2) := by decide +kernel
theorem dX10_read_15 : decode cX10_read 15 = .ok (.ireturn, 1) := by decide +kernel
theorem dX10_read_16 : decode cX10_read 16 = .ok (.iload_n 3, 1) := by decide +kernel
theorem dX10_read_17 : decode cX10_read 17 = .ok (.iconst 0, 1) := by decide +kernel
theorem dX10_read_18 : decode cX10_read 18 = .ok (.sipush 255, 3) := by decide +kernel
theorem dX10_read_21 : decode cX10_read 21 = .ok (.invokestatic 82, 3) := by decide +kernel
theorem dX10_read_24 : decode cX10_read 24 = .ok (.ifCond .ne 6, 3) := by decide +kernel
theorem dX10_read_27 : decode cX10_read 27 = .ok (.bipush (-2), 2) := by decide +kernel
theorem dX10_read_29 : decode cX10_read 29 = .ok (.ireturn, 1) := by decide +kernel
theorem dX10_read_30 : decode cX10_read 30 = .ok (.aload_n 0, 1) := by decide +kernel
theorem dX10_read_31 : decode cX10_read 31 = .ok (.getfield 64, 3) := by decide +kernel
theorem dX10_read_34 : decode cX10_read 34 = .ok (.iload_n 3, 1) := by decide +kernel
theorem dX10_read_35 : decode cX10_read 35 = .ok (.aload_n 0, 1) := by decide +kernel
theorem dX10_read_36 : decode cX10_read 36 = .ok (.getfield 26, 3) := by decide +kernel
theorem dX10_read_39 : decode cX10_read 39 = .ok (.getfield 189, 3) := by decide +kernel
theorem dX10_read_42 : decode cX10_read 42 = .ok (.iload_n 1, 1) := by decide +kernel
theorem dX10_read_43 : decode cX10_read 43 = .ok (.aaload, 1) := by decide +kernel
theorem dX10_read_44 : decode cX10_read 44 = .ok (.iload_n 2, 1) := by decide +kernel
theorem dX10_read_45 : decode cX10_read 45 = .ok (.invokevirtual 294, 3) := by decide +kernel
theorem dX10_read_48 : decode cX10_read 48 = .ok (.ireturn, 1) := by decide +kernel
theorem dX10_ways_0 : decode cX10_ways 0 = .ok (.aload_n 0, 1) := by decide +kernel
theorem dX10_ways_1 : decode cX10_ways 1 = .ok (.iload_n 1, 1) := by decide +kernel
theorem dX10_ways_2 : decode cX10_ways 2 = .ok (.iload_n 2, 1) := by decide +kernel
theorem dX10_ways_3 : decode cX10_ways 3 = .ok (.invokevirtual 234, 3) := by decide +kernel
theorem dX10_ways_6 : decode cX10_ways 6 = .ok (.istore_n 3, 1) := by decide +kernel
theorem dX10_ways_7 : decode cX10_ways 7 = .ok (.iload_n 3, 1) := by decide +kernel
theorem dX10_ways_8 : decode cX10_ways 8 = .ok (.ifCond .eq 7, 3) := by decide +kernel
theorem dX10_ways_11 : decode cX10_ways 11 = .ok (.iload_n 3, 1) := by decide +kernel
theorem dX10_ways_12 : decode cX10_ways 12 = .ok (.goto 20, 3) := by decide +kernel
theorem dX10_ways_15 : decode cX10_ways 15 = .ok (.aload_n 0, 1) := by decide +kernel
theorem dX10_ways_16 : decode cX10_ways 16 = .ok (.getfield 64, 3) := by decide +kernel
theorem dX10_ways_19 : decode cX10_ways 19 = .ok (.aload_n 0, 1) := by decide +kernel
theorem dX10_ways_20 : decode cX10_ways 20 = .ok (.getfield 26, 3) := by decide +kernel
theorem dX10_ways_23 : decode cX10_ways 23 = .ok (.getfield 189, 3) := by decide +kernel
theorem dX10_ways_26 : decode cX10_ways 26 = .ok (.iload_n 1, 1) := by decide +kernel
theorem dX10_ways_27 : decode cX10_ways 27 = .ok (.aaload, 1) := by decide +kernel
theorem dX10_ways_28 : decode cX10_ways 28 = .ok (.iload_n 2, 1) := by decide +kernel
theorem dX10_ways_29 : decode cX10_ways 29 = .ok (.invokevirtual 298, 3) := by decide +kernel
theorem dX10_ways_32 : decode cX10_ways 32 = .ok (.ireturn, 1) := by decide +kernel
theorem dX10_hangs_0 : decode cX10_hangs 0 = .ok (.iload_n 1, 1) := by decide +kernel
theorem dX10_hangs_1 : decode cX10_hangs 1 = .ok (.invokestatic 101, 3) := by decide +kernel
theorem dX10_hangs_4 : decode cX10_hangs 4 = .ok (.ifCond .eq 12, 3) := by decide +kernel
theorem dX10_hangs_7 : decode cX10_hangs 7 = .ok (.iload_n 2, 1) := by decide +kernel
theorem dX10_hangs_8 : decode cX10_hangs 8 = .ok (.iconst 0, 1) := by decide +kernel
theorem dX10_hangs_9 : decode cX10_hangs 9 = .ok (.iconst 1, 1) := by decide +kernel
theorem dX10_hangs_10 : decode cX10_hangs 10 = .ok (.invokestatic 82, 3) := by decide +kernel
theorem dX10_hangs_13 : decode cX10_hangs 13 = .ok (.ifCond .ne 6, 3) := by decide +kernel
theorem dX10_hangs_16 : decode cX10_hangs 16 = .ok (.bipush (-2), 2) := by decide +kernel
theorem dX10_hangs_18 : decode cX10_hangs 18 = .ok (.ireturn, 1) := by decide +kernel
theorem dX10_hangs_19 : decode cX10_hangs 19 = .ok (.aload_n 0, 1) := by decide +kernel
theorem dX10_hangs_20 : decode cX10_hangs 20 = .ok (.getfield 64, 3) := by decide +kernel
theorem dX10_hangs_23 : decode cX10_hangs 23 = .ok (.iload_n 1, 1) := by decide +kernel
theorem dX10_hangs_24 : decode cX10_hangs 24 = .ok (.invokevirtual 301, 3) := by decide +kernel
theorem dX10_hangs_27 : decode cX10_hangs 27 = .ok (.iload_n 2, 1) := by decide +kernel
theorem dX10_hangs_28 : decode cX10_hangs 28 = .ok (.ifCond .ne 13, 3) := by decide +kernel
theorem dX10_hangs_31 : decode cX10_hangs 31 = .ok (.aload_n 0, 1) := by decide +kernel
theorem dX10_hangs_32 : decode cX10_hangs 32 = .ok (.getfield 64, 3) := by decide +kernel
theorem dX10_hangs_35 : decode cX10_hangs 35 = .ok (.getfield 305, 3) := by decide +kernel
theorem dX10_hangs_38 : decode cX10_hangs 38 = .ok (.goto 10, 3) := by decide +kernel
theorem dX10_hangs_41 : decode cX10_hangs 41 = .ok (.aload_n 0, 1) := by decide +kernel
theorem dX10_hangs_42 : decode cX10_hangs 42 = .ok (.getfield 64, 3) := by decide +kernel
theorem dX10_hangs_45 : decode cX10_hangs 45 = .ok (.getfield 308, 3) := by decide +kernel
theorem dX10_hangs_48 : decode cX10_hangs 48 = .ok (.ireturn, 1) := by decide +kernel
theorem dX10_wish_0 : decode cX10_wish 0 = .ok (.aload_n 0, 1) := by decide +kernel
theorem dX10_wish_1 : decode cX10_wish 1 = .ok (.getfield 26, 3) := by decide +kernel
theorem dX10_wish_4 : decode cX10_wish 4 = .ok (.iload_n 1, 1) := by decide +kernel
theorem dX10_wish_5 : decode cX10_wish 5 = .ok (.invokevirtual 186, 3) := by decide +kernel
theorem dX10_wish_8 : decode cX10_wish 8 = .ok (.ifCond .ne 5, 3) := by decide +kernel
theorem dX10_wish_11 : decode cX10_wish 11 = .ok (.iconst (-1), 1) := by decide +kernel
theorem dX10_wish_12 : decode cX10_wish 12 = .ok (.ireturn, 1) := by decide +kernel
theorem dX10_wish_13 : decode cX10_wish 13 = .ok (.iload_n 2, 1) := by decide +kernel
theorem dX10_wish_14 : decode cX10_wish 14 = .ok (.iconst (-1), 1) := by decide +kernel
theorem dX10_wish_15 : decode cX10_wish 15 = .ok (.bipush 99, 2) := by decide +kernel
theorem dX10_wish_17 : decode cX10_wish 17 = .ok (.invokestatic 82, 3) := by decide +kernel
theorem dX10_wish_20 : decode cX10_wish 20 = .ok (.ifCond .ne 6, 3) := by decide +kernel
theorem dX10_wish_23 : decode cX10_wish 23 = .ok (.bipush (-2), 2) := by decide +kernel
theorem dX10_wish_25 : decode cX10_wish 25 = .ok (.ireturn, 1) := by decide +kernel
theorem dX10_wish_26 : decode cX10_wish 26 = .ok (.aload_n 0, 1) := by decide +kernel
theorem dX10_wish_27 : decode cX10_wish 27 = .ok (.getfield 26, 3) := by decide +kernel
theorem dX10_wish_30 : decode cX10_wish 30 = .ok (.getfield 189, 3) := by decide +kernel
theorem dX10_wish_33 : decode cX10_wish 33 = .ok (.iload_n 1, 1) := by decide +kernel
theorem dX10_wish_34 : decode cX10_wish 34 = .ok (.aaload, 1) := by decide +kernel
theorem dX10_wish_35 : decode cX10_wish 35 = .ok (.astore_n 3, 1) := by decide +kernel
theorem dX10_wish_36 : decode cX10_wish 36 = .ok (.aload_n 3, 1) := by decide +kernel
theorem dX10_wish_37 : decode cX10_wish 37 = .ok (.getfield 207, 3) := by decide +kernel
theorem dX10_wish_40 : decode cX10_wish 40 = .ok (.istore 4, 2) := by decide +kernel
theorem dX10_wish_42 : decode cX10_wish 42 = .ok (.aload_n 3, 1) := by decide +kernel
theorem dX10_wish_43 : decode cX10_wish 43 = .ok (.iload_n 2, 1) := by decide +kernel
theorem dX10_wish_44 : decode cX10_wish 44 = .ok (.iconst (-1), 1) := by decide +kernel
theorem dX10_wish_45 : decode cX10_wish 45 = .ok (.if_icmp .ne 8, 3) := by decide +kernel
theorem dX10_wish_48 : decode cX10_wish 48 = .ok (.bipush (-6), 2) := by decide +kernel
theorem dX10_wish_50 : decode cX10_wish 50 = .ok (.goto 4, 3) := by decide +kernel
theorem dX10_wish_53 : decode cX10_wish 53 = .ok (.iload_n 2, 1) := by decide +kernel
theorem dX10_wish_54 : decode cX10_wish 54 = .ok (.putfield 207, 3) := by decide +kernel
theorem dX10_wish_57 : decode cX10_wish 57 = .ok (.iload 4, 2) := by decide +kernel
theorem dX10_wish_59 : decode cX10_wish 59 = .ok (.ireturn, 1) := by decide +kernel
theorem dX10_mend_0 : decode cX10_mend 0 = .ok (.aload_n 0, 1) := by decide +kernel
theorem dX10_mend_1 : decode cX10_mend 1 = .ok (.getfield 26, 3) := by decide +kernel
theorem dX10_mend_4 : decode cX10_mend 4 = .ok (.iload_n 1, 1) := by decide +kernel
theorem dX10_mend_5 : decode cX10_mend 5 = .ok (.invokevirtual 111, 3) := by decide +kernel
theorem dX10_mend_8 : decode cX10_mend 8 = .ok (.ifCond .ne 5, 3) := by decide +kernel
theorem dX10_mend_11 : decode cX10_mend 11 = .ok (.iconst (-1), 1) := by decide +kernel
theorem dX10_mend_12 : decode cX10_mend 12 = .ok (.ireturn, 1) := by decide +kernel
theorem dX10_mend_13 : decode cX10_mend 13 = .ok (.iload_n 2, 1) := by decide +kernel
theorem dX10_mend_14 : decode cX10_mend 14 = .ok (.invokestatic 101, 3) := by decide +kernel
theorem dX10_mend_17 : decode cX10_mend 17 = .ok (.ifCond .eq 12, 3) := by decide +kernel
theorem dX10_mend_20 : decode cX10_mend 20 = .ok (.iload_n 3, 1) := by decide +kernel
theorem dX10_mend_21 : decode cX10_mend 21 = .ok (.iconst 0, 1) := by decide +kernel
theorem dX10_mend_22 : decode cX10_mend 22 = .ok (.iconst 3, 1) := by decide +kernel
theorem dX10_mend_23 : decode cX10_mend 23 = .ok (.invokestatic 82, 3) := by decide +kernel
theorem dX10_mend_26 : decode cX10_mend 26 = .ok (.ifCond .ne 6, 3) := by decide +kernel
theorem dX10_mend_29 : decode cX10_mend 29 = .ok (.bipush (-2), 2) := by decide +kernel
theorem dX10_mend_31 : decode cX10_mend 31 = .ok (.ireturn, 1) := by decide +kernel
theorem dX10_mend_32 : decode cX10_mend 32 = .ok (.aload_n 0, 1) := by decide +kernel
theorem dX10_mend_33 : decode cX10_mend 33 = .ok (.getfield 71, 3) := by decide +kernel
theorem dX10_mend_36 : decode cX10_mend 36 = .ok (.aload_n 0, 1) := by decide +kernel
theorem dX10_mend_37 : decode cX10_mend 37 = .ok (.getfield 26, 3) := by decide +kernel
theorem dX10_mend_40 : decode cX10_mend 40 = .ok (.getfield 114, 3) := by decide +kernel
theorem dX10_mend_43 : decode cX10_mend 43 = .ok (.iload_n 1, 1) := by decide +kernel
theorem dX10_mend_44 : decode cX10_mend 44 = .ok (.aaload, 1) := by decide +kernel
theorem dX10_mend_45 : decode cX10_mend 45 = .ok (.iload_n 2, 1) := by decide +kernel
theorem dX10_mend_46 : decode cX10_mend 46 = .ok (.invokevirtual 311, 3) := by decide +kernel
theorem dX10_mend_49 : decode cX10_mend 49 = .ok (.aload_n 0, 1) := by decide +kernel
theorem dX10_mend_50 : decode cX10_mend 50 = .ok (.getfield 71, 3) := by decide +kernel
theorem dX10_mend_53 : decode cX10_mend 53 = .ok (.getfield 315, 3) := by decide +kernel
theorem dX10_mend_56 : decode cX10_mend 56 = .ok (.bipush (-6), 2) := by decide +kernel
theorem dX10_mend_58 : decode cX10_mend 58 = .ok (.if_icmp .ne 6, 3) := by decide +kernel
theorem dX10_mend_61 : decode cX10_mend 61 = .ok (.bipush (-5), 2) := by decide +kernel
theorem dX10_mend_63 : decode cX10_mend 63 = .ok (.ireturn, 1) := by decide +kernel
theorem dX10_mend_64 : decode cX10_mend 64 = .ok (.iload_n 3, 1) := by decide +kernel
theorem dX10_mend_65 : decode cX10_mend 65 = .ok (.tableswitch 51 0 2 #[27, 35, 43], 27) := by decide +kernel
theorem dX10_mend_92 : decode cX10_mend 92 = .ok (.aload_n 0, 1) := by decide +kernel
theorem dX10_mend_93 : decode cX10_mend 93 = .ok (.getfield 71, 3) := by decide +kernel
theorem dX10_mend_96 : decode cX10_mend 96 = .ok (.getfield 315, 3) := by decide +kernel
theorem dX10_mend_99 : decode cX10_mend 99 = .ok (.ireturn, 1) := by decide +kernel
theorem dX10_mend_100 : decode cX10_mend 100 = .ok (.aload_n 0, 1) := by decide +kernel
theorem dX10_mend_101 : decode cX10_mend 101 = .ok (.getfield 71, 3) := by decide +kernel
theorem dX10_mend_104 : decode cX10_mend 104 = .ok (.getfield 318, 3) := by decide +kernel
theorem dX10_mend_107 : decode cX10_mend 107 = .ok (.ireturn, 1) := by decide +kernel
theorem dX10_mend_108 : decode cX10_mend 108 = .ok (.aload_n 0, 1) := by decide +kernel
theorem dX10_mend_109 : decode cX10_mend 109 = .ok (.getfield 71, 3) := by decide +kernel
theorem dX10_mend_112 : decode cX10_mend 112 = .ok (.getfield 319, 3) := by decide +kernel
theorem dX10_mend_115 : decode cX10_mend 115 = .ok (.ireturn, 1) := by decide +kernel
theorem dX10_mend_116 : decode cX10_mend 116 = .ok (.aload_n 0, 1) := by decide +kernel
theorem dX10_mend_117 : decode cX10_mend 117 = .ok (.getfield 71, 3) := by decide +kernel
theorem dX10_mend_120 : decode cX10_mend 120 = .ok (.getfield 321, 3) := by decide +kernel
theorem dX10_mend_123 : decode cX10_mend 123 = .ok (.ireturn, 1) := by decide +kernel
theorem dX10_all_0 : decode cX10_all 0 = .ok (.iload_n 1, 1) := by decide +kernel
theorem dX10_all_1 : decode cX10_all 1 = .ok (.invokestatic 101, 3) := by decide +kernel
theorem dX10_all_4 : decode cX10_all 4 = .ok (.ifCond .eq 12, 3) := by decide +kernel
theorem dX10_all_7 : decode cX10_all 7 = .ok (.iload_n 2, 1) := by decide +kernel
theorem dX10_all_8 : decode cX10_all 8 = .ok (.iconst 0, 1) := by decide +kernel
theorem dX10_all_9 : decode cX10_all 9 = .ok (.iconst 1, 1) := by decide +kernel
theorem dX10_all_10 : decode cX10_all 10 = .ok (.invokestatic 82, 3) := by decide +kernel
theorem dX10_all_13 : decode cX10_all 13 = .ok (.ifCond .ne 6, 3) := by decide +kernel
theorem dX10_all_16 : decode cX10_all 16 = .ok (.bipush (-2), 2) := by decide +kernel
theorem dX10_all_18 : decode cX10_all 18 = .ok (.ireturn, 1) := by decide +kernel
theorem dX10_all_19 : decode cX10_all 19 = .ok (.iload_n 2, 1) := by decide +kernel
theorem dX10_all_20 : decode cX10_all 20 = .ok (.ifCond .ne 14, 3) := by decide +kernel
theorem dX10_all_23 : decode cX10_all 23 = .ok (.aload_n 0, 1) := by decide +kernel
theorem dX10_all_24 : decode cX10_all 24 = .ok (.getfield 78, 3) := by decide +kernel
theorem dX10_all_27 : decode cX10_all 27 = .ok (.iload_n 1, 1) := by decide +kernel
theorem dX10_all_28 : decode cX10_all 28 = .ok (.invokevirtual 324, 3) := by decide +kernel
theorem dX10_all_31 : decode cX10_all 31 = .ok (.goto 11, 3) := by decide +kernel
theorem dX10_all_34 : decode cX10_all 34 = .ok (.aload_n 0, 1) := by decide +kernel
theorem dX10_all_35 : decode cX10_all 35 = .ok (.getfield 78, 3) := by decide +kernel
theorem dX10_all_38 : decode cX10_all 38 = .ok (.iload_n 1, 1) := by decide +kernel
theorem dX10_all_39 : decode cX10_all 39 = .ok (.invokevirtual 326, 3) := by decide +kernel
theorem dX10_all_42 : decode cX10_all 42 = .ok (.ireturn, 1) := by decide +kernel
theorem dX10_image_0 : decode cX10_image 0 = .ok (.iload_n 1, 1) := by decide +kernel
theorem dX10_image_1 : decode cX10_image 1 = .ok (.iconst 0, 1) := by decide +kernel
theorem dX10_image_2 : decode cX10_image 2 = .ok (.iconst 1, 1) := by decide +kernel
theorem dX10_image_3 : decode cX10_image 3 = .ok (.invokestatic 82, 3) := by decide +kernel
theorem dX10_image_6 : decode cX10_image 6 = .ok (.ifCond .ne 6, 3) := by decide +kernel
theorem dX10_image_9 : decode cX10_image 9 = .ok (.bipush (-2), 2) := by decide +kernel
theorem dX10_image_11 : decode cX10_image 11 = .ok (.ireturn, 1) := by decide +kernel
theorem dX10_image_12 : decode cX10_image 12 = .ok (.aload_n 0, 1) := by decide +kernel
theorem dX10_image_13 : decode cX10_image 13 = .ok (.getfield 30, 3) := by decide +kernel
theorem dX10_image_16 : decode cX10_image 16 = .ok (.iload_n 1, 1) := by decide +kernel
theorem dX10_image_17 : decode cX10_image 17 = .ok (.aaload, 1) := by decide +kernel
theorem dX10_image_18 : decode cX10_image 18 = .ok (.aload_n 0, 1) := by decide +kernel
theorem dX10_image_19 : decode cX10_image 19 = .ok (.getfield 26, 3) := by decide +kernel
theorem dX10_image_22 : decode cX10_image 22 = .ok (.invokevirtual 329, 3) := by decide +kernel
theorem dX10_image_25 : decode cX10_image 25 = .ok (.aload_n 0, 1) := by decide +kernel
theorem dX10_image_26 : decode cX10_image 26 = .ok (.getfield 34, 3) := by decide +kernel
theorem dX10_image_29 : decode cX10_image 29 = .ok (.iload_n 1, 1) := by decide +kernel
theorem dX10_image_30 : decode cX10_image 30 = .ok (.iconst 1, 1) := by decide +kernel
theorem dX10_image_31 : decode cX10_image 31 = .ok (.bastore, 1) := by decide +kernel
theorem dX10_image_32 : decode cX10_image 32 = .ok (.iconst 1, 1) := by decide +kernel
theorem dX10_image_33 : decode cX10_image 33 = .ok (.ireturn, 1) := by decide +kernel
theorem dX10_restore_0 : decode cX10_restore 0 = .ok (.iload_n 1, 1) := by decide +kernel
theorem dX10_restore_1 : decode cX10_restore 1 = .ok (.iconst 0, 1) := by decide +kernel
theorem dX10_restore_2 : decode cX10_restore 2 = .ok (.iconst 1, 1) := by decide +kernel
theorem dX10_restore_3 : decode cX10_restore 3 = .ok (.invokestatic 82, 3) := by decide +kernel
theorem dX10_restore_6 : decode cX10_restore 6 = .ok (.ifCond .ne 6, 3) := by decide +kernel
theorem dX10_restore_9 : decode cX10_restore 9 = .ok (.bipush (-2), 2) := by decide +kernel
theorem dX10_restore_11 : decode cX10_restore 11 = .ok (.ireturn, 1) := by decide +kernel
theorem dX10_restore_12 : decode cX10_restore 12 = .ok (.aload_n 0, 1) := by decide +kernel
theorem dX10_restore_13 : decode cX10_restore 13 = .ok (.getfield 34, 3) := by decide +kernel
theorem dX10_restore_16 : decode cX10_restore 16 = .ok (.iload_n 1, 1) := by decide +kernel
theorem dX10_restore_17 : decode cX10_restore 17 = .ok (.baload, 1) := by decide +kernel
theorem dX10_restore_18 : decode cX10_restore 18 = .ok (.ifCond .ne 6, 3) := by decide +kernel
theorem dX10_restore_21 : decode cX10_restore 21 = .ok (.bipush (-3), 2) := by decide +kernel
theorem dX10_restore_23 : decode cX10_restore 23 = .ok (.ireturn, 1) := by decide +kernel
theorem dX10_restore_24 : decode cX10_restore 24 = .ok (.aload_n 0, 1) := by decide +kernel
theorem dX10_restore_25 : decode cX10_restore 25 = .ok (.getfield 26, 3) := by decide +kernel
theorem dX10_restore_28 : decode cX10_restore 28 = .ok (.aload_n 0, 1) := by decide +kernel
theorem dX10_restore_29 : decode cX10_restore 29 = .ok (.getfield 30, 3) := by decide +kernel
theorem dX10_restore_32 : decode cX10_restore 32 = .ok (.iload_n 1, 1) := by decide +kernel
theorem dX10_restore_33 : decode cX10_restore 33 = .ok (.aaload, 1) := by decide +kernel
theorem dX10_restore_34 : decode cX10_restore 34 = .ok (.invokevirtual 329, 3) := by decide +kernel
theorem dX10_restore_37 : decode cX10_restore 37 = .ok (.iconst 1, 1) := by decide +kernel
theorem dX10_restore_38 : decode cX10_restore 38 = .ok (.ireturn, 1) := by decide +kernel
theorem dX10_told_0 : decode cX10_told 0 = .ok (.iload_n 1, 1) := by decide +kernel
theorem dX10_told_1 : decode cX10_told 1 = .ok (.tableswitch 87 0 5 #[39, 47, 55, 63, 71, 79], 39) := by decide +kernel
theorem dX10_told_40 : decode cX10_told 40 = .ok (.aload_n 0, 1) := by decide +kernel
theorem dX10_told_41 : decode cX10_told 41 = .ok (.getfield 26, 3) := by decide +kernel
theorem dX10_told_44 : decode cX10_told 44 = .ok (.getfield 104, 3) := by decide +kernel
theorem dX10_told_47 : decode cX10_told 47 = .ok (.ireturn, 1) := by decide +kernel
theorem dX10_told_48 : decode cX10_told 48 = .ok (.aload_n 0, 1) := by decide +kernel
theorem dX10_told_49 : decode cX10_told 49 = .ok (.getfield 26, 3) := by decide +kernel
theorem dX10_told_52 : decode cX10_told 52 = .ok (.getfield 179, 3) := by decide +kernel
theorem dX10_told_55 : decode cX10_told 55 = .ok (.ireturn, 1) := by decide +kernel
theorem dX10_told_56 : decode cX10_told 56 = .ok (.aload_n 0, 1) := by decide +kernel
theorem dX10_told_57 : decode cX10_told 57 = .ok (.getfield 10, 3) := by decide +kernel
theorem dX10_told_60 : decode cX10_told 60 = .ok (.getfield 90, 3) := by decide +kernel
theorem dX10_told_63 : decode cX10_told 63 = .ok (.ireturn, 1) := by decide +kernel
theorem dX10_told_64 : decode cX10_told 64 = .ok (.aload_n 0, 1) := by decide +kernel
theorem dX10_told_65 : decode cX10_told 65 = .ok (.getfield 26, 3) := by decide +kernel
theorem dX10_told_68 : decode cX10_told 68 = .ok (.getfield 210, 3) := by decide +kernel
theorem dX10_told_71 : decode cX10_told 71 = .ok (.ireturn, 1) := by decide +kernel
theorem dX10_told_72 : decode cX10_told 72 = .ok (.aload_n 0, 1) := by decide +kernel
theorem dX10_told_73 : decode cX10_told 73 = .ok (.getfield 26, 3) := by decide +kernel
theorem dX10_told_76 : decode cX10_told 76 = .ok (.getfield 213, 3) := by decide +kernel
theorem dX10_told_79 : decode cX10_told 79 = .ok (.ireturn, 1) := by decide +kernel
theorem dX10_told_80 : decode cX10_told 80 = .ok (.aload_n 0, 1) := by decide +kernel
theorem dX10_told_81 : decode cX10_told 81 = .ok (.getfield 26, 3) := by decide +kernel
theorem dX10_told_84 : decode cX10_told 84 = .ok (.getfield 216, 3) := by decide +kernel
theorem dX10_told_87 : decode cX10_told 87 = .ok (.ireturn, 1) := by decide +kernel
theorem dX10_told_88 : decode cX10_told 88 = .ok (.bipush (-2), 2) := by decide +kernel
theorem dX10_told_90 : decode cX10_told 90 = .ok (.ireturn, 1) := by decide +kernel
theorem dX10_refusedPiece_0 : decode cX10_refusedPiece 0 = .ok (.aload_n 0, 1) := by decide +kernel
theorem dX10_refusedPiece_1 : decode cX10_refusedPiece 1 = .ok (.getfield 26, 3) := by decide +kernel
theorem dX10_refusedPiece_4 : decode cX10_refusedPiece 4 = .ok (.iload_n 1, 1) := by decide +kernel
theorem dX10_refusedPiece_5 : decode cX10_refusedPiece 5 = .ok (.invokevirtual 186, 3) := by decide +kernel
theorem dX10_refusedPiece_8 : decode cX10_refusedPiece 8 = .ok (.ifCond .ne 5, 3) := by decide +kernel
theorem dX10_refusedPiece_11 : decode cX10_refusedPiece 11 = .ok (.iconst (-1), 1) := by decide +kernel
theorem dX10_refusedPiece_12 : decode cX10_refusedPiece 12 = .ok (.ireturn, 1) := by decide +kernel
theorem dX10_refusedPiece_13 : decode cX10_refusedPiece 13 = .ok (.iload_n 2, 1) := by decide +kernel
theorem dX10_refusedPiece_14 : decode cX10_refusedPiece 14 = .ok (.invokestatic 101, 3) := by decide +kernel
theorem dX10_refusedPiece_17 : decode cX10_refusedPiece 17 = .ok (.ifCond .eq 7, 3) := by decide +kernel
theorem dX10_refusedPiece_20 : decode cX10_refusedPiece 20 = .ok (.iconst 0, 1) := by decide +kernel
theorem dX10_refusedPiece_21 : decode cX10_refusedPiece 21 = .ok (.goto 5, 3) := by decide +kernel
theorem dX10_refusedPiece_24 : decode cX10_refusedPiece 24 = .ok (.bipush (-2), 2) := by decide +kernel
theorem dX10_refusedPiece_26 : decode cX10_refusedPiece 26 = .ok (.ireturn, 1) := by decide +kernel
theorem dX10_refusedLaw_0 : decode cX10_refusedLaw 0 = .ok (.aload_n 0, 1) := by decide +kernel
theorem dX10_refusedLaw_1 : decode cX10_refusedLaw 1 = .ok (.getfield 26, 3) := by decide +kernel
theorem dX10_refusedLaw_4 : decode cX10_refusedLaw 4 = .ok (.iload_n 1, 1) := by decide +kernel
theorem dX10_refusedLaw_5 : decode cX10_refusedLaw 5 = .ok (.invokevirtual 111, 3) := by decide +kernel
theorem dX10_refusedLaw_8 : decode cX10_refusedLaw 8 = .ok (.ifCond .eq 12, 3) := by decide +kernel
theorem dX10_refusedLaw_11 : decode cX10_refusedLaw 11 = .ok (.aload_n 0, 1) := by decide +kernel
theorem dX10_refusedLaw_12 : decode cX10_refusedLaw 12 = .ok (.iload_n 2, 1) := by decide +kernel
theorem dX10_refusedLaw_13 : decode cX10_refusedLaw 13 = .ok (.iload_n 3, 1) := by decide +kernel
theorem dX10_refusedLaw_14 : decode cX10_refusedLaw 14 = .ok (.invokevirtual 234, 3) := by decide +kernel
theorem dX10_refusedLaw_17 : decode cX10_refusedLaw 17 = .ok (.goto 4, 3) := by decide +kernel
theorem dX10_refusedLaw_20 : decode cX10_refusedLaw 20 = .ok (.iconst (-1), 1) := by decide +kernel
theorem dX10_refusedLaw_21 : decode cX10_refusedLaw 21 = .ok (.ireturn, 1) := by decide +kernel
theorem dX10_within_0 : decode cX10_within 0 = .ok (.iload_n 0, 1) := by decide +kernel
theorem dX10_within_1 : decode cX10_within 1 = .ok (.iload_n 1, 1) := by decide +kernel
theorem dX10_within_2 : decode cX10_within 2 = .ok (.if_icmp .lt 12, 3) := by decide +kernel
theorem dX10_within_5 : decode cX10_within 5 = .ok (.iload_n 0, 1) := by decide +kernel
theorem dX10_within_6 : decode cX10_within 6 = .ok (.iload_n 2, 1) := by decide +kernel
theorem dX10_within_7 : decode cX10_within 7 = .ok (.if_icmp .gt 7, 3) := by decide +kernel
theorem dX10_within_10 : decode cX10_within 10 = .ok (.iconst 1, 1) := by decide +kernel
theorem dX10_within_11 : decode cX10_within 11 = .ok (.goto 4, 3) := by decide +kernel
theorem dX10_within_14 : decode cX10_within 14 = .ok (.iconst 0, 1) := by decide +kernel
theorem dX10_within_15 : decode cX10_within 15 = .ok (.ireturn, 1) := by decide +kernel
theorem dX10_isDay_0 : decode cX10_isDay 0 = .ok (.iload_n 0, 1) := by decide +kernel
theorem dX10_isDay_1 : decode cX10_isDay 1 = .ok (.iconst 0, 1) := by decide +kernel
theorem dX10_isDay_2 : decode cX10_isDay 2 = .ok (.bipush 99, 2) := by decide +kernel
theorem dX10_isDay_4 : decode cX10_isDay 4 = .ok (.invokestatic 82, 3) := by decide +kernel
theorem dX10_isDay_7 : decode cX10_isDay 7 = .ok (.ireturn, 1) := by decide +kernel
theorem dX10_isMarks_0 : decode cX10_isMarks 0 = .ok (.iload_n 0, 1) := by decide +kernel
theorem dX10_isMarks_1 : decode cX10_isMarks 1 = .ok (.iconst 0, 1) := by decide +kernel
theorem dX10_isMarks_2 : decode cX10_isMarks 2 = .ok (.bipush 31, 2) := by decide +kernel
theorem dX10_isMarks_4 : decode cX10_isMarks 4 = .ok (.invokestatic 82, 3) := by decide +kernel
theorem dX10_isMarks_7 : decode cX10_isMarks 7 = .ok (.ireturn, 1) := by decide +kernel
theorem dJ6_bitCount_0f7a4_0 : decode cJ6_bitCount_0f7a4 0 = .ok (.iload_n 0, 1) := by decide +kernel
theorem dJ6_bitCount_0f7a4_1 : decode cJ6_bitCount_0f7a4 1 = .ok (.iload_n 0, 1) := by decide +kernel
theorem dJ6_bitCount_0f7a4_2 : decode cJ6_bitCount_0f7a4 2 = .ok (.iconst 1, 1) := by decide +kernel
theorem dJ6_bitCount_0f7a4_3 : decode cJ6_bitCount_0f7a4 3 = .ok (.iushr, 1) := by decide +kernel
theorem dJ6_bitCount_0f7a4_4 : decode cJ6_bitCount_0f7a4 4 = .ok (.ldc_w 265, 3) := by decide +kernel
theorem dJ6_bitCount_0f7a4_7 : decode cJ6_bitCount_0f7a4 7 = .ok (.iand, 1) := by decide +kernel
theorem dJ6_bitCount_0f7a4_8 : decode cJ6_bitCount_0f7a4 8 = .ok (.isub, 1) := by decide +kernel
theorem dJ6_bitCount_0f7a4_9 : decode cJ6_bitCount_0f7a4 9 = .ok (.istore_n 0, 1) := by decide +kernel
theorem dJ6_bitCount_0f7a4_10 : decode cJ6_bitCount_0f7a4 10 = .ok (.iload_n 0, 1) := by decide +kernel
theorem dJ6_bitCount_0f7a4_11 : decode cJ6_bitCount_0f7a4 11 = .ok (.ldc_w 266, 3) := by decide +kernel
theorem dJ6_bitCount_0f7a4_14 : decode cJ6_bitCount_0f7a4 14 = .ok (.iand, 1) := by decide +kernel
theorem dJ6_bitCount_0f7a4_15 : decode cJ6_bitCount_0f7a4 15 = .ok (.iload_n 0, 1) := by decide +kernel
theorem dJ6_bitCount_0f7a4_16 : decode cJ6_bitCount_0f7a4 16 = .ok (.iconst 2, 1) := by decide +kernel
theorem dJ6_bitCount_0f7a4_17 : decode cJ6_bitCount_0f7a4 17 = .ok (.iushr, 1) := by decide +kernel
theorem dJ6_bitCount_0f7a4_18 : decode cJ6_bitCount_0f7a4 18 = .ok (.ldc_w 266, 3) := by decide +kernel
theorem dJ6_bitCount_0f7a4_21 : decode cJ6_bitCount_0f7a4 21 = .ok (.iand, 1) := by decide +kernel
theorem dJ6_bitCount_0f7a4_22 : decode cJ6_bitCount_0f7a4 22 = .ok (.iadd, 1) := by decide +kernel
theorem dJ6_bitCount_0f7a4_23 : decode cJ6_bitCount_0f7a4 23 = .ok (.istore_n 0, 1) := by decide +kernel
theorem dJ6_bitCount_0f7a4_24 : decode cJ6_bitCount_0f7a4 24 = .ok (.iload_n 0, 1) := by decide +kernel
theorem dJ6_bitCount_0f7a4_25 : decode cJ6_bitCount_0f7a4 25 = .ok (.iload_n 0, 1) := by decide +kernel
theorem dJ6_bitCount_0f7a4_26 : decode cJ6_bitCount_0f7a4 26 = .ok (.iconst 4, 1) := by decide +kernel
theorem dJ6_bitCount_0f7a4_27 : decode cJ6_bitCount_0f7a4 27 = .ok (.iushr, 1) := by decide +kernel
theorem dJ6_bitCount_0f7a4_28 : decode cJ6_bitCount_0f7a4 28 = .ok (.iadd, 1) := by decide +kernel
theorem dJ6_bitCount_0f7a4_29 : decode cJ6_bitCount_0f7a4 29 = .ok (.ldc_w 267, 3) := by decide +kernel
theorem dJ6_bitCount_0f7a4_32 : decode cJ6_bitCount_0f7a4 32 = .ok (.iand, 1) := by decide +kernel
theorem dJ6_bitCount_0f7a4_33 : decode cJ6_bitCount_0f7a4 33 = .ok (.istore_n 0, 1) := by decide +kernel
theorem dJ6_bitCount_0f7a4_34 : decode cJ6_bitCount_0f7a4 34 = .ok (.iload_n 0, 1) := by decide +kernel
theorem dJ6_bitCount_0f7a4_35 : decode cJ6_bitCount_0f7a4 35 = .ok (.iload_n 0, 1) := by decide +kernel
theorem dJ6_bitCount_0f7a4_36 : decode cJ6_bitCount_0f7a4 36 = .ok (.bipush 8, 2) := by decide +kernel
theorem dJ6_bitCount_0f7a4_38 : decode cJ6_bitCount_0f7a4 38 = .ok (.iushr, 1) := by decide +kernel
theorem dJ6_bitCount_0f7a4_39 : decode cJ6_bitCount_0f7a4 39 = .ok (.iadd, 1) := by decide +kernel
theorem dJ6_bitCount_0f7a4_40 : decode cJ6_bitCount_0f7a4 40 = .ok (.istore_n 0, 1) := by decide +kernel
theorem dJ6_bitCount_0f7a4_41 : decode cJ6_bitCount_0f7a4 41 = .ok (.iload_n 0, 1) := by decide +kernel
theorem dJ6_bitCount_0f7a4_42 : decode cJ6_bitCount_0f7a4 42 = .ok (.iload_n 0, 1) := by decide +kernel
theorem dJ6_bitCount_0f7a4_43 : decode cJ6_bitCount_0f7a4 43 = .ok (.bipush 16, 2) := by decide +kernel
theorem dJ6_bitCount_0f7a4_45 : decode cJ6_bitCount_0f7a4 45 = .ok (.iushr, 1) := by decide +kernel
theorem dJ6_bitCount_0f7a4_46 : decode cJ6_bitCount_0f7a4 46 = .ok (.iadd, 1) := by decide +kernel
theorem dJ6_bitCount_0f7a4_47 : decode cJ6_bitCount_0f7a4 47 = .ok (.istore_n 0, 1) := by decide +kernel
theorem dJ6_bitCount_0f7a4_48 : decode cJ6_bitCount_0f7a4 48 = .ok (.iload_n 0, 1) := by decide +kernel
theorem dJ6_bitCount_0f7a4_49 : decode cJ6_bitCount_0f7a4 49 = .ok (.bipush 63, 2) := by decide +kernel
theorem dJ6_bitCount_0f7a4_51 : decode cJ6_bitCount_0f7a4 51 = .ok (.iand, 1) := by decide +kernel
theorem dJ6_bitCount_0f7a4_52 : decode cJ6_bitCount_0f7a4 52 = .ok (.ireturn, 1) := by decide +kernel
theorem dJ13_bitCount_95d88_0 : decode cJ13_bitCount_95d88 0 = .ok (.lload_n 0, 1) := by decide +kernel
theorem dJ13_bitCount_95d88_1 : decode cJ13_bitCount_95d88 1 = .ok (.lload_n 0, 1) := by decide +kernel
theorem dJ13_bitCount_95d88_2 : decode cJ13_bitCount_95d88 2 = .ok (.iconst 1, 1) := by decide +kernel
theorem dJ13_bitCount_95d88_3 : decode cJ13_bitCount_95d88 3 = .ok (.lushr, 1) := by decide +kernel
theorem dJ13_bitCount_95d88_4 : decode cJ13_bitCount_95d88 4 = .ok (.ldc2_w 314, 3) := by decide +kernel
theorem dJ13_bitCount_95d88_7 : decode cJ13_bitCount_95d88 7 = .ok (.land, 1) := by decide +kernel
theorem dJ13_bitCount_95d88_8 : decode cJ13_bitCount_95d88 8 = .ok (.lsub, 1) := by decide +kernel
theorem dJ13_bitCount_95d88_9 : decode cJ13_bitCount_95d88 9 = .ok (.lstore_n 0, 1) := by decide +kernel
theorem dJ13_bitCount_95d88_10 : decode cJ13_bitCount_95d88 10 = .ok (.lload_n 0, 1) := by decide +kernel
theorem dJ13_bitCount_95d88_11 : decode cJ13_bitCount_95d88 11 = .ok (.ldc2_w 316, 3) := by decide +kernel
theorem dJ13_bitCount_95d88_14 : decode cJ13_bitCount_95d88 14 = .ok (.land, 1) := by decide +kernel
theorem dJ13_bitCount_95d88_15 : decode cJ13_bitCount_95d88 15 = .ok (.lload_n 0, 1) := by decide +kernel
theorem dJ13_bitCount_95d88_16 : decode cJ13_bitCount_95d88 16 = .ok (.iconst 2, 1) := by decide +kernel
theorem dJ13_bitCount_95d88_17 : decode cJ13_bitCount_95d88 17 = .ok (.lushr, 1) := by decide +kernel
theorem dJ13_bitCount_95d88_18 : decode cJ13_bitCount_95d88 18 = .ok (.ldc2_w 316, 3) := by decide +kernel
theorem dJ13_bitCount_95d88_21 : decode cJ13_bitCount_95d88 21 = .ok (.land, 1) := by decide +kernel
theorem dJ13_bitCount_95d88_22 : decode cJ13_bitCount_95d88 22 = .ok (.ladd, 1) := by decide +kernel
theorem dJ13_bitCount_95d88_23 : decode cJ13_bitCount_95d88 23 = .ok (.lstore_n 0, 1) := by decide +kernel
theorem dJ13_bitCount_95d88_24 : decode cJ13_bitCount_95d88 24 = .ok (.lload_n 0, 1) := by decide +kernel
theorem dJ13_bitCount_95d88_25 : decode cJ13_bitCount_95d88 25 = .ok (.lload_n 0, 1) := by decide +kernel
theorem dJ13_bitCount_95d88_26 : decode cJ13_bitCount_95d88 26 = .ok (.iconst 4, 1) := by decide +kernel
theorem dJ13_bitCount_95d88_27 : decode cJ13_bitCount_95d88 27 = .ok (.lushr, 1) := by decide +kernel
theorem dJ13_bitCount_95d88_28 : decode cJ13_bitCount_95d88 28 = .ok (.ladd, 1) := by decide +kernel
theorem dJ13_bitCount_95d88_29 : decode cJ13_bitCount_95d88 29 = .ok (.ldc2_w 318, 3) := by decide +kernel
theorem dJ13_bitCount_95d88_32 : decode cJ13_bitCount_95d88 32 = .ok (.land, 1) := by decide +kernel
theorem dJ13_bitCount_95d88_33 : decode cJ13_bitCount_95d88 33 = .ok (.lstore_n 0, 1) := by decide +kernel
theorem dJ13_bitCount_95d88_34 : decode cJ13_bitCount_95d88 34 = .ok (.lload_n 0, 1) := by decide +kernel
theorem dJ13_bitCount_95d88_35 : decode cJ13_bitCount_95d88 35 = .ok (.lload_n 0, 1) := by decide +kernel
theorem dJ13_bitCount_95d88_36 : decode cJ13_bitCount_95d88 36 = .ok (.bipush 8, 2) := by decide +kernel
theorem dJ13_bitCount_95d88_38 : decode cJ13_bitCount_95d88 38 = .ok (.lushr, 1) := by decide +kernel
theorem dJ13_bitCount_95d88_39 : decode cJ13_bitCount_95d88 39 = .ok (.ladd, 1) := by decide +kernel
theorem dJ13_bitCount_95d88_40 : decode cJ13_bitCount_95d88 40 = .ok (.lstore_n 0, 1) := by decide +kernel
theorem dJ13_bitCount_95d88_41 : decode cJ13_bitCount_95d88 41 = .ok (.lload_n 0, 1) := by decide +kernel
theorem dJ13_bitCount_95d88_42 : decode cJ13_bitCount_95d88 42 = .ok (.lload_n 0, 1) := by decide +kernel
theorem dJ13_bitCount_95d88_43 : decode cJ13_bitCount_95d88 43 = .ok (.bipush 16, 2) := by decide +kernel
theorem dJ13_bitCount_95d88_45 : decode cJ13_bitCount_95d88 45 = .ok (.lushr, 1) := by decide +kernel
theorem dJ13_bitCount_95d88_46 : decode cJ13_bitCount_95d88 46 = .ok (.ladd, 1) := by decide +kernel
theorem dJ13_bitCount_95d88_47 : decode cJ13_bitCount_95d88 47 = .ok (.lstore_n 0, 1) := by decide +kernel
theorem dJ13_bitCount_95d88_48 : decode cJ13_bitCount_95d88 48 = .ok (.lload_n 0, 1) := by decide +kernel
theorem dJ13_bitCount_95d88_49 : decode cJ13_bitCount_95d88 49 = .ok (.lload_n 0, 1) := by decide +kernel
theorem dJ13_bitCount_95d88_50 : decode cJ13_bitCount_95d88 50 = .ok (.bipush 32, 2) := by decide +kernel
theorem dJ13_bitCount_95d88_52 : decode cJ13_bitCount_95d88 52 = .ok (.lushr, 1) := by decide +kernel
theorem dJ13_bitCount_95d88_53 : decode cJ13_bitCount_95d88 53 = .ok (.ladd, 1) := by decide +kernel
theorem dJ13_bitCount_95d88_54 : decode cJ13_bitCount_95d88 54 = .ok (.lstore_n 0, 1) := by decide +kernel
theorem dJ13_bitCount_95d88_55 : decode cJ13_bitCount_95d88 55 = .ok (.lload_n 0, 1) := by decide +kernel
theorem dJ13_bitCount_95d88_56 : decode cJ13_bitCount_95d88 56 = .ok (.l2i, 1) := by decide +kernel
theorem dJ13_bitCount_95d88_57 : decode cJ13_bitCount_95d88 57 = .ok (.bipush 127, 2) := by decide +kernel
theorem dJ13_bitCount_95d88_59 : decode cJ13_bitCount_95d88 59 = .ok (.iand, 1) := by decide +kernel
theorem dJ13_bitCount_95d88_60 : decode cJ13_bitCount_95d88 60 = .ok (.ireturn, 1) := by decide +kernel
theorem dJ9_min_7cf53_0 : decode cJ9_min_7cf53 0 = .ok (.iload_n 0, 1) := by decide +kernel
theorem dJ9_min_7cf53_1 : decode cJ9_min_7cf53 1 = .ok (.iload_n 1, 1) := by decide +kernel
theorem dJ9_min_7cf53_2 : decode cJ9_min_7cf53 2 = .ok (.if_icmp .gt 7, 3) := by decide +kernel
theorem dJ9_min_7cf53_5 : decode cJ9_min_7cf53 5 = .ok (.iload_n 0, 1) := by decide +kernel
theorem dJ9_min_7cf53_6 : decode cJ9_min_7cf53 6 = .ok (.goto 4, 3) := by decide +kernel
theorem dJ9_min_7cf53_9 : decode cJ9_min_7cf53 9 = .ok (.iload_n 1, 1) := by decide +kernel
theorem dJ9_min_7cf53_10 : decode cJ9_min_7cf53 10 = .ok (.ireturn, 1) := by decide +kernel
