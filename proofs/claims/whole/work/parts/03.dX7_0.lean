theorem dX7_init_0 : decode cX7_init 0 = .ok (.aload_n 0, 1) := by decide +kernel
theorem dX7_init_1 : decode cX7_init 1 = .ok (.invokespecial 3, 3) := by decide +kernel
theorem dX7_init_4 : decode cX7_init 4 = .ok (.aload_n 0, 1) := by decide +kernel
theorem dX7_init_5 : decode cX7_init 5 = .ok (.bipush 12, 2) := by decide +kernel
theorem dX7_init_7 : decode cX7_init 7 = .ok (.newarray .int, 2) := by decide +kernel
theorem dX7_init_9 : decode cX7_init 9 = .ok (.putfield 9, 3) := by decide +kernel
theorem dX7_init_12 : decode cX7_init 12 = .ok (.aload_n 0, 1) := by decide +kernel
theorem dX7_init_13 : decode cX7_init 13 = .ok (.bipush 12, 2) := by decide +kernel
theorem dX7_init_15 : decode cX7_init 15 = .ok (.newarray .int, 2) := by decide +kernel
theorem dX7_init_17 : decode cX7_init 17 = .ok (.putfield 15, 3) := by decide +kernel
theorem dX7_init_20 : decode cX7_init 20 = .ok (.aload_n 0, 1) := by decide +kernel
theorem dX7_init_21 : decode cX7_init 21 = .ok (.bipush 12, 2) := by decide +kernel
theorem dX7_init_23 : decode cX7_init 23 = .ok (.newarray .int, 2) := by decide +kernel
theorem dX7_init_25 : decode cX7_init 25 = .ok (.putfield 18, 3) := by decide +kernel
theorem dX7_init_28 : decode cX7_init 28 = .ok (.aload_n 0, 1) := by decide +kernel
theorem dX7_init_29 : decode cX7_init 29 = .ok (.bipush 12, 2) := by decide +kernel
theorem dX7_init_31 : decode cX7_init 31 = .ok (.newarray .int, 2) := by decide +kernel
theorem dX7_init_33 : decode cX7_init 33 = .ok (.putfield 21, 3) := by decide +kernel
theorem dX7_init_36 : decode cX7_init 36 = .ok (.aload_n 0, 1) := by decide +kernel
theorem dX7_init_37 : decode cX7_init 37 = .ok (.sipush 200, 3) := by decide +kernel
theorem dX7_init_40 : decode cX7_init 40 = .ok (.newarray .byte, 2) := by decide +kernel
theorem dX7_init_42 : decode cX7_init 42 = .ok (.putfield 24, 3) := by decide +kernel
theorem dX7_init_45 : decode cX7_init 45 = .ok (.aload_n 0, 1) := by decide +kernel
theorem dX7_init_46 : decode cX7_init 46 = .ok (.bipush 7, 2) := by decide +kernel
theorem dX7_init_48 : decode cX7_init 48 = .ok (.newarray .int, 2) := by decide +kernel
theorem dX7_init_50 : decode cX7_init 50 = .ok (.putfield 30, 3) := by decide +kernel
theorem dX7_init_53 : decode cX7_init 53 = .ok (.aload_n 0, 1) := by decide +kernel
theorem dX7_init_54 : decode cX7_init 54 = .ok (.aload_n 1, 1) := by decide +kernel
theorem dX7_init_55 : decode cX7_init 55 = .ok (.putfield 33, 3) := by decide +kernel
theorem dX7_init_58 : decode cX7_init 58 = .ok (.return_, 1) := by decide +kernel
theorem dX7_rank_0 : decode cX7_rank 0 = .ok (.iconst 0, 1) := by decide +kernel
theorem dX7_rank_1 : decode cX7_rank 1 = .ok (.istore_n 3, 1) := by decide +kernel
theorem dX7_rank_2 : decode cX7_rank 2 = .ok (.iload_n 3, 1) := by decide +kernel
theorem dX7_rank_3 : decode cX7_rank 3 = .ok (.iload_n 1, 1) := by decide +kernel
theorem dX7_rank_4 : decode cX7_rank 4 = .ok (.if_icmp .ge 52, 3) := by decide +kernel
theorem dX7_rank_7 : decode cX7_rank 7 = .ok (.iload_n 3, 1) := by decide +kernel
theorem dX7_rank_8 : decode cX7_rank 8 = .ok (.istore 4, 2) := by decide +kernel
theorem dX7_rank_10 : decode cX7_rank 10 = .ok (.iload 4, 2) := by decide +kernel
theorem dX7_rank_12 : decode cX7_rank 12 = .ok (.ifCond .le 33, 3) := by decide +kernel
theorem dX7_rank_15 : decode cX7_rank 15 = .ok (.aload_n 0, 1) := by decide +kernel
theorem dX7_rank_16 : decode cX7_rank 16 = .ok (.aload_n 2, 1) := by decide +kernel
theorem dX7_rank_17 : decode cX7_rank 17 = .ok (.iload 4, 2) := by decide +kernel
theorem dX7_rank_19 : decode cX7_rank 19 = .ok (.iconst 1, 1) := by decide +kernel
theorem dX7_rank_20 : decode cX7_rank 20 = .ok (.isub, 1) := by decide +kernel
theorem dX7_rank_21 : decode cX7_rank 21 = .ok (.iaload, 1) := by decide +kernel
theorem dX7_rank_22 : decode cX7_rank 22 = .ok (.iaload, 1) := by decide +kernel
theorem dX7_rank_23 : decode cX7_rank 23 = .ok (.aload_n 0, 1) := by decide +kernel
theorem dX7_rank_24 : decode cX7_rank 24 = .ok (.iload_n 3, 1) := by decide +kernel
theorem dX7_rank_25 : decode cX7_rank 25 = .ok (.iaload, 1) := by decide +kernel
theorem dX7_rank_26 : decode cX7_rank 26 = .ok (.if_icmp .ge 19, 3) := by decide +kernel
theorem dX7_rank_29 : decode cX7_rank 29 = .ok (.aload_n 2, 1) := by decide +kernel
theorem dX7_rank_30 : decode cX7_rank 30 = .ok (.iload 4, 2) := by decide +kernel
theorem dX7_rank_32 : decode cX7_rank 32 = .ok (.aload_n 2, 1) := by decide +kernel
theorem dX7_rank_33 : decode cX7_rank 33 = .ok (.iload 4, 2) := by decide +kernel
theorem dX7_rank_35 : decode cX7_rank 35 = .ok (.iconst 1, 1) := by decide +kernel
theorem dX7_rank_36 : decode cX7_rank 36 = .ok (.isub, 1) := by decide +kernel
theorem dX7_rank_37 : decode cX7_rank 37 = .ok (.iaload, 1) := by decide +kernel
theorem dX7_rank_38 : decode cX7_rank 38 = .ok (.iastore, 1) := by decide +kernel
theorem dX7_rank_39 : decode cX7_rank 39 = .ok (.iinc 4 (-1), 3) := by decide +kernel
theorem dX7_rank_42 : decode cX7_rank 42 = .ok (.goto (-32), 3) := by decide +kernel
theorem dX7_rank_45 : decode cX7_rank 45 = .ok (.aload_n 2, 1) := by decide +kernel
theorem dX7_rank_46 : decode cX7_rank 46 = .ok (.iload 4, 2) := by decide +kernel
theorem dX7_rank_48 : decode cX7_rank 48 = .ok (.iload_n 3, 1) := by decide +kernel
theorem dX7_rank_49 : decode cX7_rank 49 = .ok (.iastore, 1) := by decide +kernel
theorem dX7_rank_50 : decode cX7_rank 50 = .ok (.iinc 3 1, 3) := by decide +kernel
theorem dX7_rank_53 : decode cX7_rank 53 = .ok (.goto (-51), 3) := by decide +kernel
theorem dX7_rank_56 : decode cX7_rank 56 = .ok (.return_, 1) := by decide +kernel
theorem dX7_drawn_0 : decode cX7_drawn 0 = .ok (.iload_n 0, 1) := by decide +kernel
theorem dX7_drawn_1 : decode cX7_drawn 1 = .ok (.ldc 37, 2) := by decide +kernel
theorem dX7_drawn_3 : decode cX7_drawn 3 = .ok (.imul, 1) := by decide +kernel
theorem dX7_drawn_4 : decode cX7_drawn 4 = .ok (.sipush 12345, 3) := by decide +kernel
theorem dX7_drawn_7 : decode cX7_drawn 7 = .ok (.iadd, 1) := by decide +kernel
theorem dX7_drawn_8 : decode cX7_drawn 8 = .ok (.ireturn, 1) := by decide +kernel
theorem dX7_begin_0 : decode cX7_begin 0 = .ok (.aload_n 0, 1) := by decide +kernel
theorem dX7_begin_1 : decode cX7_begin 1 = .ok (.aload_n 1, 1) := by decide +kernel
theorem dX7_begin_2 : decode cX7_begin 2 = .ok (.putfield 38, 3) := by decide +kernel
theorem dX7_begin_5 : decode cX7_begin 5 = .ok (.aload_n 0, 1) := by decide +kernel
theorem dX7_begin_6 : decode cX7_begin 6 = .ok (.iload_n 2, 1) := by decide +kernel
theorem dX7_begin_7 : decode cX7_begin 7 = .ok (.putfield 42, 3) := by decide +kernel
theorem dX7_begin_10 : decode cX7_begin 10 = .ok (.aload_n 0, 1) := by decide +kernel
theorem dX7_begin_11 : decode cX7_begin 11 = .ok (.iconst 1, 1) := by decide +kernel
theorem dX7_begin_12 : decode cX7_begin 12 = .ok (.putfield 46, 3) := by decide +kernel
theorem dX7_begin_15 : decode cX7_begin 15 = .ok (.aload_n 0, 1) := by decide +kernel
theorem dX7_begin_16 : decode cX7_begin 16 = .ok (.iconst 0, 1) := by decide +kernel
theorem dX7_begin_17 : decode cX7_begin 17 = .ok (.putfield 49, 3) := by decide +kernel
theorem dX7_begin_20 : decode cX7_begin 20 = .ok (.aload_n 0, 1) := by decide +kernel
theorem dX7_begin_21 : decode cX7_begin 21 = .ok (.iconst 0, 1) := by decide +kernel
theorem dX7_begin_22 : decode cX7_begin 22 = .ok (.putfield 52, 3) := by decide +kernel
theorem dX7_begin_25 : decode cX7_begin 25 = .ok (.aload_n 0, 1) := by decide +kernel
theorem dX7_begin_26 : decode cX7_begin 26 = .ok (.iconst 0, 1) := by decide +kernel
theorem dX7_begin_27 : decode cX7_begin 27 = .ok (.putfield 55, 3) := by decide +kernel
theorem dX7_begin_30 : decode cX7_begin 30 = .ok (.aload_n 0, 1) := by decide +kernel
theorem dX7_begin_31 : decode cX7_begin 31 = .ok (.getfield 9, 3) := by decide +kernel
theorem dX7_begin_34 : decode cX7_begin 34 = .ok (.iconst 0, 1) := by decide +kernel
theorem dX7_begin_35 : decode cX7_begin 35 = .ok (.invokestatic 58, 3) := by decide +kernel
theorem dX7_begin_38 : decode cX7_begin 38 = .ok (.return_, 1) := by decide +kernel
theorem dX7_followLawOf_0 : decode cX7_followLawOf 0 = .ok (.aload_n 0, 1) := by decide +kernel
theorem dX7_followLawOf_1 : decode cX7_followLawOf 1 = .ok (.aload_n 1, 1) := by decide +kernel
theorem dX7_followLawOf_2 : decode cX7_followLawOf 2 = .ok (.getfield 38, 3) := by decide +kernel
theorem dX7_followLawOf_5 : decode cX7_followLawOf 5 = .ok (.putfield 38, 3) := by decide +kernel
theorem dX7_followLawOf_8 : decode cX7_followLawOf 8 = .ok (.aload_n 0, 1) := by decide +kernel
theorem dX7_followLawOf_9 : decode cX7_followLawOf 9 = .ok (.aload_n 1, 1) := by decide +kernel
theorem dX7_followLawOf_10 : decode cX7_followLawOf 10 = .ok (.getfield 46, 3) := by decide +kernel
theorem dX7_followLawOf_13 : decode cX7_followLawOf 13 = .ok (.putfield 46, 3) := by decide +kernel
theorem dX7_followLawOf_16 : decode cX7_followLawOf 16 = .ok (.aload_n 0, 1) := by decide +kernel
theorem dX7_followLawOf_17 : decode cX7_followLawOf 17 = .ok (.aload_n 1, 1) := by decide +kernel
theorem dX7_followLawOf_18 : decode cX7_followLawOf 18 = .ok (.getfield 64, 3) := by decide +kernel
theorem dX7_followLawOf_21 : decode cX7_followLawOf 21 = .ok (.putfield 64, 3) := by decide +kernel
theorem dX7_followLawOf_24 : decode cX7_followLawOf 24 = .ok (.aload_n 0, 1) := by decide +kernel
theorem dX7_followLawOf_25 : decode cX7_followLawOf 25 = .ok (.aload_n 1, 1) := by decide +kernel
theorem dX7_followLawOf_26 : decode cX7_followLawOf 26 = .ok (.getfield 49, 3) := by decide +kernel
theorem dX7_followLawOf_29 : decode cX7_followLawOf 29 = .ok (.putfield 49, 3) := by decide +kernel
theorem dX7_followLawOf_32 : decode cX7_followLawOf 32 = .ok (.return_, 1) := by decide +kernel
theorem dX7_arrange_0 : decode cX7_arrange 0 = .ok (.aload_n 0, 1) := by decide +kernel
theorem dX7_arrange_1 : decode cX7_arrange 1 = .ok (.getfield 9, 3) := by decide +kernel
theorem dX7_arrange_4 : decode cX7_arrange 4 = .ok (.aload_n 0, 1) := by decide +kernel
theorem dX7_arrange_5 : decode cX7_arrange 5 = .ok (.getfield 33, 3) := by decide +kernel
theorem dX7_arrange_8 : decode cX7_arrange 8 = .ok (.getfield 67, 3) := by decide +kernel
theorem dX7_arrange_11 : decode cX7_arrange 11 = .ok (.aload_n 0, 1) := by decide +kernel
theorem dX7_arrange_12 : decode cX7_arrange 12 = .ok (.getfield 15, 3) := by decide +kernel
theorem dX7_arrange_15 : decode cX7_arrange 15 = .ok (.invokestatic 72, 3) := by decide +kernel
theorem dX7_arrange_18 : decode cX7_arrange 18 = .ok (.iconst 0, 1) := by decide +kernel
theorem dX7_arrange_19 : decode cX7_arrange 19 = .ok (.istore_n 1, 1) := by decide +kernel
theorem dX7_arrange_20 : decode cX7_arrange 20 = .ok (.iload_n 1, 1) := by decide +kernel
theorem dX7_arrange_21 : decode cX7_arrange 21 = .ok (.aload_n 0, 1) := by decide +kernel
theorem dX7_arrange_22 : decode cX7_arrange 22 = .ok (.getfield 33, 3) := by decide +kernel
theorem dX7_arrange_25 : decode cX7_arrange 25 = .ok (.getfield 67, 3) := by decide +kernel
theorem dX7_arrange_28 : decode cX7_arrange 28 = .ok (.if_icmp .ge 21, 3) := by decide +kernel
theorem dX7_arrange_31 : decode cX7_arrange 31 = .ok (.aload_n 0, 1) := by decide +kernel
theorem dX7_arrange_32 : decode cX7_arrange 32 = .ok (.getfield 18, 3) := by decide +kernel
theorem dX7_arrange_35 : decode cX7_arrange 35 = .ok (.aload_n 0, 1) := by decide +kernel
theorem dX7_arrange_36 : decode cX7_arrange 36 = .ok (.getfield 15, 3) := by decide +kernel
theorem dX7_arrange_39 : decode cX7_arrange 39 = .ok (.iload_n 1, 1) := by decide +kernel
theorem dX7_arrange_40 : decode cX7_arrange 40 = .ok (.iaload, 1) := by decide +kernel
theorem dX7_arrange_41 : decode cX7_arrange 41 = .ok (.iload_n 1, 1) := by decide +kernel
theorem dX7_arrange_42 : decode cX7_arrange 42 = .ok (.iastore, 1) := by decide +kernel
theorem dX7_arrange_43 : decode cX7_arrange 43 = .ok (.iinc 1 1, 3) := by decide +kernel
theorem dX7_arrange_46 : decode cX7_arrange 46 = .ok (.goto (-26), 3) := by decide +kernel
theorem dX7_arrange_49 : decode cX7_arrange 49 = .ok (.return_, 1) := by decide +kernel
theorem dX7_first_0 : decode cX7_first 0 = .ok (.aload_n 0, 1) := by decide +kernel
theorem dX7_first_1 : decode cX7_first 1 = .ok (.getfield 33, 3) := by decide +kernel
theorem dX7_first_4 : decode cX7_first 4 = .ok (.getfield 67, 3) := by decide +kernel
theorem dX7_first_7 : decode cX7_first 7 = .ok (.ifCond .ne 8, 3) := by decide +kernel
theorem dX7_first_10 : decode cX7_first 10 = .ok (.bipush (-2), 2) := by decide +kernel
theorem dX7_first_12 : decode cX7_first 12 = .ok (.goto 11, 3) := by decide +kernel
theorem dX7_first_15 : decode cX7_first 15 = .ok (.aload_n 0, 1) := by decide +kernel
theorem dX7_first_16 : decode cX7_first 16 = .ok (.aload_n 0, 1) := by decide +kernel
theorem dX7_first_17 : decode cX7_first 17 = .ok (.getfield 9, 3) := by decide +kernel
theorem dX7_first_20 : decode cX7_first 20 = .ok (.invokevirtual 76, 3) := by decide +kernel
theorem dX7_first_23 : decode cX7_first 23 = .ok (.ireturn, 1) := by decide +kernel
theorem dX7_greatest_0 : decode cX7_greatest 0 = .ok (.iconst 0, 1) := by decide +kernel
theorem dX7_greatest_1 : decode cX7_greatest 1 = .ok (.istore_n 2, 1) := by decide +kernel
theorem dX7_greatest_2 : decode cX7_greatest 2 = .ok (.iconst 1, 1) := by decide +kernel
theorem dX7_greatest_3 : decode cX7_greatest 3 = .ok (.istore_n 3, 1) := by decide +kernel
theorem dX7_greatest_4 : decode cX7_greatest 4 = .ok (.iload_n 3, 1) := by decide +kernel
theorem dX7_greatest_5 : decode cX7_greatest 5 = .ok (.aload_n 0, 1) := by decide +kernel
theorem dX7_greatest_6 : decode cX7_greatest 6 = .ok (.getfield 33, 3) := by decide +kernel
theorem dX7_greatest_9 : decode cX7_greatest 9 = .ok (.getfield 67, 3) := by decide +kernel
theorem dX7_greatest_12 : decode cX7_greatest 12 = .ok (.if_icmp .ge 24, 3) := by decide +kernel
theorem dX7_greatest_15 : decode cX7_greatest 15 = .ok (.aload_n 1, 1) := by decide +kernel
theorem dX7_greatest_16 : decode cX7_greatest 16 = .ok (.iload_n 3, 1) := by decide +kernel
theorem dX7_greatest_17 : decode cX7_greatest 17 = .ok (.iaload, 1) := by decide +kernel
theorem dX7_greatest_18 : decode cX7_greatest 18 = .ok (.aload_n 1, 1) := by decide +kernel
theorem dX7_greatest_19 : decode cX7_greatest 19 = .ok (.iload_n 2, 1) := by decide +kernel
theorem dX7_greatest_20 : decode cX7_greatest 20 = .ok (.iaload, 1) := by decide +kernel
theorem dX7_greatest_21 : decode cX7_greatest 21 = .ok (.if_icmp .le 7, 3) := by decide +kernel
theorem dX7_greatest_24 : decode cX7_greatest 24 = .ok (.iload_n 3, 1) := by decide +kernel
theorem dX7_greatest_25 : decode cX7_greatest 25 = .ok (.goto 4, 3) := by decide +kernel
theorem dX7_greatest_28 : decode cX7_greatest 28 = .ok (.iload_n 2, 1) := by decide +kernel
theorem dX7_greatest_29 : decode cX7_greatest 29 = .ok (.istore_n 2, 1) := by decide +kernel
theorem dX7_greatest_30 : decode cX7_greatest 30 = .ok (.iinc 3 1, 3) := by decide +kernel
theorem dX7_greatest_33 : decode cX7_greatest 33 = .ok (.goto (-29), 3) := by decide +kernel
theorem dX7_greatest_36 : decode cX7_greatest 36 = .ok (.iload_n 2, 1) := by decide +kernel
theorem dX7_greatest_37 : decode cX7_greatest 37 = .ok (.ireturn, 1) := by decide +kernel
theorem dX7_firstOnes_0 : decode cX7_firstOnes 0 = .ok (.aload_n 0, 1) := by decide +kernel
theorem dX7_firstOnes_1 : decode cX7_firstOnes 1 = .ok (.invokevirtual 80, 3) := by decide +kernel
theorem dX7_firstOnes_4 : decode cX7_firstOnes 4 = .ok (.iconst 0, 1) := by decide +kernel
theorem dX7_firstOnes_5 : decode cX7_firstOnes 5 = .ok (.istore_n 2, 1) := by decide +kernel
theorem dX7_firstOnes_6 : decode cX7_firstOnes 6 = .ok (.iconst 0, 1) := by decide +kernel
theorem dX7_firstOnes_7 : decode cX7_firstOnes 7 = .ok (.istore_n 3, 1) := by decide +kernel
theorem dX7_firstOnes_8 : decode cX7_firstOnes 8 = .ok (.iload_n 3, 1) := by decide +kernel
theorem dX7_firstOnes_9 : decode cX7_firstOnes 9 = .ok (.iload_n 1, 1) := by decide +kernel
theorem dX7_firstOnes_10 : decode cX7_firstOnes 10 = .ok (.if_icmp .ge 31, 3) := by decide +kernel
theorem dX7_firstOnes_13 : decode cX7_firstOnes 13 = .ok (.iload_n 3, 1) := by decide +kernel
theorem dX7_firstOnes_14 : decode cX7_firstOnes 14 = .ok (.aload_n 0, 1) := by decide +kernel
theorem dX7_firstOnes_15 : decode cX7_firstOnes 15 = .ok (.getfield 33, 3) := by decide +kernel
theorem dX7_firstOnes_18 : decode cX7_firstOnes 18 = .ok (.getfield 67, 3) := by decide +kernel
theorem dX7_firstOnes_21 : decode cX7_firstOnes 21 = .ok (.if_icmp .ge 20, 3) := by decide +kernel
theorem dX7_firstOnes_24 : decode cX7_firstOnes 24 = .ok (.iload_n 2, 1) := by decide +kernel
theorem dX7_firstOnes_25 : decode cX7_firstOnes 25 = .ok (.iconst 1, 1) := by decide +kernel
theorem dX7_firstOnes_26 : decode cX7_firstOnes 26 = .ok (.aload_n 0, 1) := by decide +kernel
theorem dX7_firstOnes_27 : decode cX7_firstOnes 27 = .ok (.getfield 15, 3) := by decide +kernel
theorem dX7_firstOnes_30 : decode cX7_firstOnes 30 = .ok (.iload_n 3, 1) := by decide +kernel
theorem dX7_firstOnes_31 : decode cX7_firstOnes 31 = .ok (.iaload, 1) := by decide +kernel
theorem dX7_firstOnes_32 : decode cX7_firstOnes 32 = .ok (.ishl, 1) := by decide +kernel
theorem dX7_firstOnes_33 : decode cX7_firstOnes 33 = .ok (.ior, 1) := by decide +kernel
theorem dX7_firstOnes_34 : decode cX7_firstOnes 34 = .ok (.istore_n 2, 1) := by decide +kernel
theorem dX7_firstOnes_35 : decode cX7_firstOnes 35 = .ok (.iinc 3 1, 3) := by decide +kernel
theorem dX7_firstOnes_38 : decode cX7_firstOnes 38 = .ok (.goto (-30), 3) := by decide +kernel
theorem dX7_firstOnes_41 : decode cX7_firstOnes 41 = .ok (.iload_n 2, 1) := by decide +kernel
theorem dX7_firstOnes_42 : decode cX7_firstOnes 42 = .ok (.ireturn, 1) := by decide +kernel
theorem dX7_placeSeen_0 : decode cX7_placeSeen 0 = .ok (.aload_n 0, 1) := by decide +kernel
theorem dX7_placeSeen_1 : decode cX7_placeSeen 1 = .ok (.getfield 46, 3) := by decide +kernel
theorem dX7_placeSeen_4 : decode cX7_placeSeen 4 = .ok (.ifCond .ne 5, 3) := by decide +kernel
theorem dX7_placeSeen_7 : decode cX7_placeSeen 7 = .ok (.iconst 0, 1) := by decide +kernel
theorem dX7_placeSeen_8 : decode cX7_placeSeen 8 = .ok (.ireturn, 1) := by decide +kernel
theorem dX7_placeSeen_9 : decode cX7_placeSeen 9 = .ok (.aload_n 0, 1) := by decide +kernel
theorem dX7_placeSeen_10 : decode cX7_placeSeen 10 = .ok (.getfield 46, 3) := by decide +kernel
theorem dX7_placeSeen_13 : decode cX7_placeSeen 13 = .ok (.iconst 2, 1) := by decide +kernel
theorem dX7_placeSeen_14 : decode cX7_placeSeen 14 = .ok (.if_icmp .ne 33, 3) := by decide +kernel
theorem dX7_placeSeen_17 : decode cX7_placeSeen 17 = .ok (.aload_n 0, 1) := by decide +kernel
theorem dX7_placeSeen_18 : decode cX7_placeSeen 18 = .ok (.getfield 52, 3) := by decide +kernel
theorem dX7_placeSeen_21 : decode cX7_placeSeen 21 = .ok (.aload_n 0, 1) := by decide +kernel
theorem dX7_placeSeen_22 : decode cX7_placeSeen 22 = .ok (.getfield 64, 3) := by decide +kernel
theorem dX7_placeSeen_25 : decode cX7_placeSeen 25 = .ok (.if_icmp .ge 22, 3) := by decide +kernel
theorem dX7_placeSeen_28 : decode cX7_placeSeen 28 = .ok (.aload_n 0, 1) := by decide +kernel
theorem dX7_placeSeen_29 : decode cX7_placeSeen 29 = .ok (.getfield 33, 3) := by decide +kernel
theorem dX7_placeSeen_32 : decode cX7_placeSeen 32 = .ok (.getfield 67, 3) := by decide +kernel
theorem dX7_placeSeen_35 : decode cX7_placeSeen 35 = .ok (.iconst 1, 1) := by decide +kernel
theorem dX7_placeSeen_36 : decode cX7_placeSeen 36 = .ok (.isub, 1) := by decide +kernel
theorem dX7_placeSeen_37 : decode cX7_placeSeen 37 = .ok (.aload_n 0, 1) := by decide +kernel
theorem dX7_placeSeen_38 : decode cX7_placeSeen 38 = .ok (.getfield 18, 3) := by decide +kernel
theorem dX7_placeSeen_41 : decode cX7_placeSeen 41 = .ok (.iload_n 1, 1) := by decide +kernel
theorem dX7_placeSeen_42 : decode cX7_placeSeen 42 = .ok (.iaload, 1) := by decide +kernel
theorem dX7_placeSeen_43 : decode cX7_placeSeen 43 = .ok (.isub, 1) := by decide +kernel
theorem dX7_placeSeen_44 : decode cX7_placeSeen 44 = .ok (.goto 9, 3) := by decide +kernel
theorem dX7_placeSeen_47 : decode cX7_placeSeen 47 = .ok (.aload_n 0, 1) := by decide +kernel
theorem dX7_placeSeen_48 : decode cX7_placeSeen 48 = .ok (.getfield 18, 3) := by decide +kernel
theorem dX7_placeSeen_51 : decode cX7_placeSeen 51 = .ok (.iload_n 1, 1) := by decide +kernel
theorem dX7_placeSeen_52 : decode cX7_placeSeen 52 = .ok (.iaload, 1) := by decide +kernel
theorem dX7_placeSeen_53 : decode cX7_placeSeen 53 = .ok (.ireturn, 1) := by decide +kernel
theorem dX7_weigh_0 : decode cX7_weigh 0 = .ok (.aload_n 0, 1) := by decide +kernel
theorem dX7_weigh_1 : decode cX7_weigh 1 = .ok (.getfield 38, 3) := by decide +kernel
theorem dX7_weigh_4 : decode cX7_weigh 4 = .ok (.ifnonnull 5, 3) := by decide +kernel
theorem dX7_weigh_7 : decode cX7_weigh 7 = .ok (.iconst 0, 1) := by decide +kernel
theorem dX7_weigh_8 : decode cX7_weigh 8 = .ok (.ireturn, 1) := by decide +kernel
theorem dX7_weigh_9 : decode cX7_weigh 9 = .ok (.aload_n 0, 1) := by decide +kernel
theorem dX7_weigh_10 : decode cX7_weigh 10 = .ok (.getfield 30, 3) := by decide +kernel
theorem dX7_weigh_13 : decode cX7_weigh 13 = .ok (.iconst 0, 1) := by decide +kernel
theorem dX7_weigh_14 : decode cX7_weigh 14 = .ok (.aload_n 0, 1) := by decide +kernel
theorem dX7_weigh_15 : decode cX7_weigh 15 = .ok (.getfield 33, 3) := by decide +kernel
theorem dX7_weigh_18 : decode cX7_weigh 18 = .ok (.getfield 83, 3) := by decide +kernel
theorem dX7_weigh_21 : decode cX7_weigh 21 = .ok (.iload_n 1, 1) := by decide +kernel
theorem dX7_weigh_22 : decode cX7_weigh 22 = .ok (.iaload, 1) := by decide +kernel
theorem dX7_weigh_23 : decode cX7_weigh 23 = .ok (.iastore, 1) := by decide +kernel
theorem dX7_weigh_24 : decode cX7_weigh 24 = .ok (.aload_n 0, 1) := by decide +kernel
theorem dX7_weigh_25 : decode cX7_weigh 25 = .ok (.getfield 30, 3) := by decide +kernel
theorem dX7_weigh_28 : decode cX7_weigh 28 = .ok (.iconst 1, 1) := by decide +kernel
theorem dX7_weigh_29 : decode cX7_weigh 29 = .ok (.aload_n 0, 1) := by decide +kernel
theorem dX7_weigh_30 : decode cX7_weigh 30 = .ok (.getfield 46, 3) := by decide +kernel
theorem dX7_weigh_33 : decode cX7_weigh 33 = .ok (.ifCond .ne 7, 3) := by decide +kernel
theorem dX7_weigh_36 : decode cX7_weigh 36 = .ok (.iconst 0, 1) := by decide +kernel
theorem dX7_weigh_37 : decode cX7_weigh 37 = .ok (.goto 9, 3) := by decide +kernel
theorem dX7_weigh_40 : decode cX7_weigh 40 = .ok (.aload_n 0, 1) := by decide +kernel
theorem dX7_weigh_41 : decode cX7_weigh 41 = .ok (.getfield 9, 3) := by decide +kernel
theorem dX7_weigh_44 : decode cX7_weigh 44 = .ok (.iload_n 1, 1) := by decide +kernel
theorem dX7_weigh_45 : decode cX7_weigh 45 = .ok (.iaload, 1) := by decide +kernel
theorem dX7_weigh_46 : decode cX7_weigh 46 = .ok (.iastore, 1) := by decide +kernel
theorem dX7_weigh_47 : decode cX7_weigh 47 = .ok (.aload_n 0, 1) := by decide +kernel
theorem dX7_weigh_48 : decode cX7_weigh 48 = .ok (.getfield 30, 3) := by decide +kernel
theorem dX7_weigh_51 : decode cX7_weigh 51 = .ok (.iconst 2, 1) := by decide +kernel
theorem dX7_weigh_52 : decode cX7_weigh 52 = .ok (.aload_n 0, 1) := by decide +kernel
theorem dX7_weigh_53 : decode cX7_weigh 53 = .ok (.iload_n 1, 1) := by decide +kernel
theorem dX7_weigh_54 : decode cX7_weigh 54 = .ok (.invokevirtual 86, 3) := by decide +kernel
theorem dX7_weigh_57 : decode cX7_weigh 57 = .ok (.iastore, 1) := by decide +kernel
theorem dX7_weigh_58 : decode cX7_weigh 58 = .ok (.aload_n 0, 1) := by decide +kernel
theorem dX7_weigh_59 : decode cX7_weigh 59 = .ok (.getfield 30, 3) := by decide +kernel
theorem dX7_weigh_62 : decode cX7_weigh 62 = .ok (.iconst 3, 1) := by decide +kernel
theorem dX7_weigh_63 : decode cX7_weigh 63 = .ok (.aload_n 0, 1) := by decide +kernel
theorem dX7_weigh_64 : decode cX7_weigh 64 = .ok (.getfield 33, 3) := by decide +kernel
theorem dX7_weigh_67 : decode cX7_weigh 67 = .ok (.getfield 67, 3) := by decide +kernel
theorem dX7_weigh_70 : decode cX7_weigh 70 = .ok (.iastore, 1) := by decide +kernel
theorem dX7_weigh_71 : decode cX7_weigh 71 = .ok (.aload_n 0, 1) := by decide +kernel
theorem dX7_weigh_72 : decode cX7_weigh 72 = .ok (.getfield 30, 3) := by decide +kernel
theorem dX7_weigh_75 : decode cX7_weigh 75 = .ok (.iconst 4, 1) := by decide +kernel
theorem dX7_weigh_76 : decode cX7_weigh 76 = .ok (.aload_n 0, 1) := by decide +kernel
theorem dX7_weigh_77 : decode cX7_weigh 77 = .ok (.getfield 52, 3) := by decide +kernel
theorem dX7_weigh_80 : decode cX7_weigh 80 = .ok (.iastore, 1) := by decide +kernel
theorem dX7_weigh_81 : decode cX7_weigh 81 = .ok (.aload_n 0, 1) := by decide +kernel
theorem dX7_weigh_82 : decode cX7_weigh 82 = .ok (.getfield 30, 3) := by decide +kernel
theorem dX7_weigh_85 : decode cX7_weigh 85 = .ok (.iconst 5, 1) := by decide +kernel
theorem dX7_weigh_86 : decode cX7_weigh 86 = .ok (.aload_n 0, 1) := by decide +kernel
theorem dX7_weigh_87 : decode cX7_weigh 87 = .ok (.getfield 55, 3) := by decide +kernel
theorem dX7_weigh_90 : decode cX7_weigh 90 = .ok (.iastore, 1) := by decide +kernel
theorem dX7_weigh_91 : decode cX7_weigh 91 = .ok (.aload_n 0, 1) := by decide +kernel
theorem dX7_weigh_92 : decode cX7_weigh 92 = .ok (.getfield 30, 3) := by decide +kernel
theorem dX7_weigh_95 : decode cX7_weigh 95 = .ok (.bipush 6, 2) := by decide +kernel
theorem dX7_weigh_97 : decode cX7_weigh 97 = .ok (.iload_n 1, 1) := by decide +kernel
theorem dX7_weigh_98 : decode cX7_weigh 98 = .ok (.iastore, 1) := by decide +kernel
theorem dX7_weigh_99 : decode cX7_weigh 99 = .ok (.aload_n 0, 1) := by decide +kernel
theorem dX7_weigh_100 : decode cX7_weigh 100 = .ok (.getfield 38, 3) := by decide +kernel
theorem dX7_weigh_103 : decode cX7_weigh 103 = .ok (.aload_n 0, 1) := by decide +kernel
theorem dX7_weigh_104 : decode cX7_weigh 104 = .ok (.getfield 30, 3) := by decide +kernel
theorem dX7_weigh_107 : decode cX7_weigh 107 = .ok (.invokevirtual 90, 3) := by decide +kernel
theorem dX7_weigh_110 : decode cX7_weigh 110 = .ok (.ireturn, 1) := by decide +kernel
theorem dX7_weighAll_0 : decode cX7_weighAll 0 = .ok (.aload_n 0, 1) := by decide +kernel
theorem dX7_weighAll_1 : decode cX7_weighAll 1 = .ok (.invokevirtual 80, 3) := by decide +kernel
theorem dX7_weighAll_4 : decode cX7_weighAll 4 = .ok (.aload_n 0, 1) := by decide +kernel
theorem dX7_weighAll_5 : decode cX7_weighAll 5 = .ok (.getfield 49, 3) := by decide +kernel
theorem dX7_weighAll_8 : decode cX7_weighAll 8 = .ok (.istore_n 1, 1) := by decide +kernel
theorem dX7_weighAll_9 : decode cX7_weighAll 9 = .ok (.iconst 0, 1) := by decide +kernel
theorem dX7_weighAll_10 : decode cX7_weighAll 10 = .ok (.istore_n 2, 1) := by decide +kernel
theorem dX7_weighAll_11 : decode cX7_weighAll 11 = .ok (.iload_n 2, 1) := by decide +kernel
theorem dX7_weighAll_12 : decode cX7_weighAll 12 = .ok (.aload_n 0, 1) := by decide +kernel
theorem dX7_weighAll_13 : decode cX7_weighAll 13 = .ok (.getfield 33, 3) := by decide +kernel
theorem dX7_weighAll_16 : decode cX7_weighAll 16 = .ok (.getfield 67, 3) := by decide +kernel
theorem dX7_weighAll_19 : decode cX7_weighAll 19 = .ok (.if_icmp .ge 29, 3) := by decide +kernel
theorem dX7_weighAll_22 : decode cX7_weighAll 22 = .ok (.aload_n 0, 1) := by decide +kernel
theorem dX7_weighAll_23 : decode cX7_weighAll 23 = .ok (.getfield 21, 3) := by decide +kernel
theorem dX7_weighAll_26 : decode cX7_weighAll 26 = .ok (.iload_n 2, 1) := by decide +kernel
theorem dX7_weighAll_27 : decode cX7_weighAll 27 = .ok (.aload_n 0, 1) := by decide +kernel
theorem dX7_weighAll_28 : decode cX7_weighAll 28 = .ok (.iload_n 2, 1) := by decide +kernel
theorem dX7_weighAll_29 : decode cX7_weighAll 29 = .ok (.invokevirtual 93, 3) := by decide +kernel
theorem dX7_weighAll_32 : decode cX7_weighAll 32 = .ok (.iastore, 1) := by decide +kernel
theorem dX7_weighAll_33 : decode cX7_weighAll 33 = .ok (.iload_n 1, 1) := by decide +kernel
theorem dX7_weighAll_34 : decode cX7_weighAll 34 = .ok (.aload_n 0, 1) := by decide +kernel
theorem dX7_weighAll_35 : decode cX7_weighAll 35 = .ok (.getfield 21, 3) := by decide +kernel
theorem dX7_weighAll_38 : decode cX7_weighAll 38 = .ok (.iload_n 2, 1) := by decide +kernel
theorem dX7_weighAll_39 : decode cX7_weighAll 39 = .ok (.iaload, 1) := by decide +kernel
theorem dX7_weighAll_40 : decode cX7_weighAll 40 = .ok (.iadd, 1) := by decide +kernel
theorem dX7_weighAll_41 : decode cX7_weighAll 41 = .ok (.istore_n 1, 1) := by decide +kernel
theorem dX7_weighAll_42 : decode cX7_weighAll 42 = .ok (.iinc 2 1, 3) := by decide +kernel
theorem dX7_weighAll_45 : decode cX7_weighAll 45 = .ok (.goto (-34), 3) := by decide +kernel
theorem dX7_weighAll_48 : decode cX7_weighAll 48 = .ok (.iload_n 1, 1) := by decide +kernel
theorem dX7_weighAll_49 : decode cX7_weighAll 49 = .ok (.ireturn, 1) := by decide +kernel
theorem dX7_manyCome_0 : decode cX7_manyCome 0 = .ok (.aload_n 0, 1) := by decide +kernel
theorem dX7_manyCome_1 : decode cX7_manyCome 1 = .ok (.getfield 55, 3) := by decide +kernel
theorem dX7_manyCome_4 : decode cX7_manyCome 4 = .ok (.istore_n 2, 1) := by decide +kernel
theorem dX7_manyCome_5 : decode cX7_manyCome 5 = .ok (.iconst 0, 1) := by decide +kernel
theorem dX7_manyCome_6 : decode cX7_manyCome 6 = .ok (.istore_n 3, 1) := by decide +kernel
theorem dX7_manyCome_7 : decode cX7_manyCome 7 = .ok (.iload_n 3, 1) := by decide +kernel
theorem dX7_manyCome_8 : decode cX7_manyCome 8 = .ok (.iload_n 1, 1) := by decide +kernel
theorem dX7_manyCome_9 : decode cX7_manyCome 9 = .ok (.if_icmp .ge 13, 3) := by decide +kernel
theorem dX7_manyCome_12 : decode cX7_manyCome 12 = .ok (.aload_n 0, 1) := by decide +kernel
theorem dX7_manyCome_13 : decode cX7_manyCome 13 = .ok (.invokevirtual 95, 3) := by decide +kernel
theorem dX7_manyCome_16 : decode cX7_manyCome 16 = .ok (.iinc 3 1, 3) := by decide +kernel
theorem dX7_manyCome_19 : decode cX7_manyCome 19 = .ok (.goto (-12), 3) := by decide +kernel
theorem dX7_manyCome_22 : decode cX7_manyCome 22 = .ok (.aload_n 0, 1) := by decide +kernel
theorem dX7_manyCome_23 : decode cX7_manyCome 23 = .ok (.getfield 55, 3) := by decide +kernel
theorem dX7_manyCome_26 : decode cX7_manyCome 26 = .ok (.iload_n 2, 1) := by decide +kernel
theorem dX7_manyCome_27 : decode cX7_manyCome 27 = .ok (.isub, 1) := by decide +kernel
theorem dX7_manyCome_28 : decode cX7_manyCome 28 = .ok (.ireturn, 1) := by decide +kernel
theorem dX7_oneComes_0 : decode cX7_oneComes 0 = .ok (.aload_n 0, 1) := by decide +kernel
theorem dX7_oneComes_1 : decode cX7_oneComes 1 = .ok (.invokevirtual 98, 3) := by decide +kernel
theorem dX7_oneComes_4 : decode cX7_oneComes 4 = .ok (.istore_n 1, 1) := by decide +kernel
theorem dX7_oneComes_5 : decode cX7_oneComes 5 = .ok (.aload_n 0, 1) := by decide +kernel
theorem dX7_oneComes_6 : decode cX7_oneComes 6 = .ok (.aload_n 0, 1) := by decide +kernel
theorem dX7_oneComes_7 : decode cX7_oneComes 7 = .ok (.getfield 42, 3) := by decide +kernel
theorem dX7_oneComes_10 : decode cX7_oneComes 10 = .ok (.invokestatic 102, 3) := by decide +kernel
theorem dX7_oneComes_13 : decode cX7_oneComes 13 = .ok (.putfield 42, 3) := by decide +kernel
theorem dX7_oneComes_16 : decode cX7_oneComes 16 = .ok (.iload_n 1, 1) := by decide +kernel
theorem dX7_oneComes_17 : decode cX7_oneComes 17 = .ok (.ifCond .le 15, 3) := by decide +kernel
theorem dX7_oneComes_20 : decode cX7_oneComes 20 = .ok (.aload_n 0, 1) := by decide +kernel
theorem dX7_oneComes_21 : decode cX7_oneComes 21 = .ok (.getfield 42, 3) := by decide +kernel
theorem dX7_oneComes_24 : decode cX7_oneComes 24 = .ok (.bipush 8, 2) := by decide +kernel
theorem dX7_oneComes_26 : decode cX7_oneComes 26 = .ok (.iushr, 1) := by decide +kernel
theorem dX7_oneComes_27 : decode cX7_oneComes 27 = .ok (.iload_n 1, 1) := by decide +kernel
theorem dX7_oneComes_28 : decode cX7_oneComes 28 = .ok (.irem, 1) := by decide +kernel
theorem dX7_oneComes_29 : decode cX7_oneComes 29 = .ok (.goto 4, 3) := by decide +kernel
theorem dX7_oneComes_32 : decode cX7_oneComes 32 = .ok (.iconst 0, 1) := by decide +kernel
theorem dX7_oneComes_33 : decode cX7_oneComes 33 = .ok (.istore_n 2, 1) := by decide +kernel
theorem dX7_oneComes_34 : decode cX7_oneComes 34 = .ok (.iconst (-1), 1) := by decide +kernel
theorem dX7_oneComes_35 : decode cX7_oneComes 35 = .ok (.istore_n 3, 1) := by decide +kernel
theorem dX7_oneComes_36 : decode cX7_oneComes 36 = .ok (.iconst 0, 1) := by decide +kernel
theorem dX7_oneComes_37 : decode cX7_oneComes 37 = .ok (.istore 4, 2) := by decide +kernel
theorem dX7_oneComes_39 : decode cX7_oneComes 39 = .ok (.iload 4, 2) := by decide +kernel
theorem dX7_oneComes_41 : decode cX7_oneComes 41 = .ok (.aload_n 0, 1) := by decide +kernel
theorem dX7_oneComes_42 : decode cX7_oneComes 42 = .ok (.getfield 33, 3) := by decide +kernel
theorem dX7_oneComes_45 : decode cX7_oneComes 45 = .ok (.getfield 67, 3) := by decide +kernel
theorem dX7_oneComes_48 : decode cX7_oneComes 48 = .ok (.if_icmp .ge 37, 3) := by decide +kernel
theorem dX7_oneComes_51 : decode cX7_oneComes 51 = .ok (.iload_n 3, 1) := by decide +kernel
theorem dX7_oneComes_52 : decode cX7_oneComes 52 = .ok (.ifCond .ge 33, 3) := by decide +kernel
theorem dX7_oneComes_55 : decode cX7_oneComes 55 = .ok (.iload_n 2, 1) := by decide +kernel
theorem dX7_oneComes_56 : decode cX7_oneComes 56 = .ok (.aload_n 0, 1) := by decide +kernel
theorem dX7_oneComes_57 : decode cX7_oneComes 57 = .ok (.getfield 21, 3) := by decide +kernel
theorem dX7_oneComes_60 : decode cX7_oneComes 60 = .ok (.iload 4, 2) := by decide +kernel
theorem dX7_oneComes_62 : decode cX7_oneComes 62 = .ok (.iaload, 1) := by decide +kernel
theorem dX7_oneComes_63 : decode cX7_oneComes 63 = .ok (.if_icmp .ge 6, 3) := by decide +kernel
theorem dX7_oneComes_66 : decode cX7_oneComes 66 = .ok (.iload 4, 2) := by decide +kernel
theorem dX7_oneComes_68 : decode cX7_oneComes 68 = .ok (.istore_n 3, 1) := by decide +kernel
theorem dX7_oneComes_69 : decode cX7_oneComes 69 = .ok (.iload_n 2, 1) := by decide +kernel
theorem dX7_oneComes_70 : decode cX7_oneComes 70 = .ok (.aload_n 0, 1) := by decide +kernel
theorem dX7_oneComes_71 : decode cX7_oneComes 71 = .ok (.getfield 21, 3) := by decide +kernel
theorem dX7_oneComes_74 : decode cX7_oneComes 74 = .ok (.iload 4, 2) := by decide +kernel
theorem dX7_oneComes_76 : decode cX7_oneComes 76 = .ok (.iaload, 1) := by decide +kernel
theorem dX7_oneComes_77 : decode cX7_oneComes 77 = .ok (.isub, 1) := by decide +kernel
theorem dX7_oneComes_78 : decode cX7_oneComes 78 = .ok (.istore_n 2, 1) := by decide +kernel
theorem dX7_oneComes_79 : decode cX7_oneComes 79 = .ok (.iinc 4 1, 3) := by decide +kernel
theorem dX7_oneComes_82 : decode cX7_oneComes 82 = .ok (.goto (-43), 3) := by decide +kernel
theorem dX7_oneComes_85 : decode cX7_oneComes 85 = .ok (.aload_n 0, 1) := by decide +kernel
theorem dX7_oneComes_86 : decode cX7_oneComes 86 = .ok (.iload_n 3, 1) := by decide +kernel
theorem dX7_oneComes_87 : decode cX7_oneComes 87 = .ok (.invokevirtual 105, 3) := by decide +kernel
theorem dX7_oneComes_90 : decode cX7_oneComes 90 = .ok (.return_, 1) := by decide +kernel
theorem dX7_receive_0 : decode cX7_receive 0 = .ok (.aload_n 0, 1) := by decide +kernel
theorem dX7_receive_1 : decode cX7_receive 1 = .ok (.dup, 1) := by decide +kernel
theorem dX7_receive_2 : decode cX7_receive 2 = .ok (.getfield 52, 3) := by decide +kernel
theorem dX7_receive_5 : decode cX7_receive 5 = .ok (.iconst 1, 1) := by decide +kernel
theorem dX7_receive_6 : decode cX7_receive 6 = .ok (.iadd, 1) := by decide +kernel
theorem dX7_receive_7 : decode cX7_receive 7 = .ok (.putfield 52, 3) := by decide +kernel
theorem dX7_receive_10 : decode cX7_receive 10 = .ok (.aload_n 0, 1) := by decide +kernel
theorem dX7_receive_11 : decode cX7_receive 11 = .ok (.getfield 33, 3) := by decide +kernel
theorem dX7_receive_14 : decode cX7_receive 14 = .ok (.iload_n 1, 1) := by decide +kernel
theorem dX7_receive_15 : decode cX7_receive 15 = .ok (.invokevirtual 109, 3) := by decide +kernel
theorem dX7_receive_18 : decode cX7_receive 18 = .ok (.ifCond .ne 4, 3) := by decide +kernel
theorem dX7_receive_21 : decode cX7_receive 21 = .ok (.return_, 1) := by decide +kernel
theorem dX7_receive_22 : decode cX7_receive 22 = .ok (.aload_n 0, 1) := by decide +kernel
theorem dX7_receive_23 : decode cX7_receive 23 = .ok (.getfield 55, 3) := by decide +kernel
theorem dX7_receive_26 : decode cX7_receive 26 = .ok (.sipush 200, 3) := by decide +kernel
theorem dX7_receive_29 : decode cX7_receive 29 = .ok (.if_icmp .ge 14, 3) := by decide +kernel
theorem dX7_receive_32 : decode cX7_receive 32 = .ok (.aload_n 0, 1) := by decide +kernel
theorem dX7_receive_33 : decode cX7_receive 33 = .ok (.getfield 24, 3) := by decide +kernel
theorem dX7_receive_36 : decode cX7_receive 36 = .ok (.aload_n 0, 1) := by decide +kernel
theorem dX7_receive_37 : decode cX7_receive 37 = .ok (.getfield 55, 3) := by decide +kernel
theorem dX7_receive_40 : decode cX7_receive 40 = .ok (.iload_n 1, 1) := by decide +kernel
theorem dX7_receive_41 : decode cX7_receive 41 = .ok (.i2b, 1) := by decide +kernel
theorem dX7_receive_42 : decode cX7_receive 42 = .ok (.bastore, 1) := by decide +kernel
theorem dX7_receive_43 : decode cX7_receive 43 = .ok (.aload_n 0, 1) := by decide +kernel
theorem dX7_receive_44 : decode cX7_receive 44 = .ok (.dup, 1) := by decide +kernel
theorem dX7_receive_45 : decode cX7_receive 45 = .ok (.getfield 55, 3) := by decide +kernel
theorem dX7_receive_48 : decode cX7_receive 48 = .ok (.iconst 1, 1) := by decide +kernel
theorem dX7_receive_49 : decode cX7_receive 49 = .ok (.iadd, 1) := by decide +kernel
theorem dX7_receive_50 : decode cX7_receive 50 = .ok (.putfield 55, 3) := by decide +kernel
theorem dX7_receive_53 : decode cX7_receive 53 = .ok (.aload_n 0, 1) := by decide +kernel
theorem dX7_receive_54 : decode cX7_receive 54 = .ok (.getfield 9, 3) := by decide +kernel
theorem dX7_receive_57 : decode cX7_receive 57 = .ok (.iload_n 1, 1) := by decide +kernel
theorem dX7_receive_58 : decode cX7_receive 58 = .ok (.aload_n 0, 1) := by decide +kernel
theorem dX7_receive_59 : decode cX7_receive 59 = .ok (.getfield 9, 3) := by decide +kernel
theorem dX7_receive_62 : decode cX7_receive 62 = .ok (.iload_n 1, 1) := by decide +kernel
theorem dX7_receive_63 : decode cX7_receive 63 = .ok (.iaload, 1) := by decide +kernel
theorem dX7_receive_64 : decode cX7_receive 64 = .ok (.iconst 1, 1) := by decide +kernel
theorem dX7_receive_65 : decode cX7_receive 65 = .ok (.iadd, 1) := by decide +kernel
theorem dX7_receive_66 : decode cX7_receive 66 = .ok (.ldc 113, 2) := by decide +kernel
theorem dX7_receive_68 : decode cX7_receive 68 = .ok (.invokestatic 114, 3) := by decide +kernel
theorem dX7_receive_71 : decode cX7_receive 71 = .ok (.iastore, 1) := by decide +kernel
theorem dX7_receive_72 : decode cX7_receive 72 = .ok (.return_, 1) := by decide +kernel
theorem dX7_logged_0 : decode cX7_logged 0 = .ok (.aload_n 0, 1) := by decide +kernel
theorem dX7_logged_1 : decode cX7_logged 1 = .ok (.getfield 55, 3) := by decide +kernel
theorem dX7_logged_4 : decode cX7_logged 4 = .ok (.sipush 200, 3) := by decide +kernel
theorem dX7_logged_7 : decode cX7_logged 7 = .ok (.invokestatic 114, 3) := by decide +kernel
theorem dX7_logged_10 : decode cX7_logged 10 = .ok (.ireturn, 1) := by decide +kernel
theorem dX7_allCounts_0 : decode cX7_allCounts 0 = .ok (.iconst 0, 1) := by decide +kernel
theorem dX7_allCounts_1 : decode cX7_allCounts 1 = .ok (.istore_n 1, 1) := by decide +kernel
theorem dX7_allCounts_2 : decode cX7_allCounts 2 = .ok (.iconst 0, 1) := by decide +kernel
theorem dX7_allCounts_3 : decode cX7_allCounts 3 = .ok (.istore_n 2, 1) := by decide +kernel
theorem dX7_allCounts_4 : decode cX7_allCounts 4 = .ok (.iload_n 2, 1) := by decide +kernel
theorem dX7_allCounts_5 : decode cX7_allCounts 5 = .ok (.aload_n 0, 1) := by decide +kernel
theorem dX7_allCounts_6 : decode cX7_allCounts 6 = .ok (.getfield 33, 3) := by decide +kernel
theorem dX7_allCounts_9 : decode cX7_allCounts 9 = .ok (.getfield 67, 3) := by decide +kernel
theorem dX7_allCounts_12 : decode cX7_allCounts 12 = .ok (.if_icmp .ge 18, 3) := by decide +kernel
theorem dX7_allCounts_15 : decode cX7_allCounts 15 = .ok (.iload_n 1, 1) := by decide +kernel
theorem dX7_allCounts_16 : decode cX7_allCounts 16 = .ok (.aload_n 0, 1) := by decide +kernel
theorem dX7_allCounts_17 : decode cX7_allCounts 17 = .ok (.getfield 9, 3) := by decide +kernel
theorem dX7_allCounts_20 : decode cX7_allCounts 20 = .ok (.iload_n 2, 1) := by decide +kernel
theorem dX7_allCounts_21 : decode cX7_allCounts 21 = .ok (.iaload, 1) := by decide +kernel
theorem dX7_allCounts_22 : decode cX7_allCounts 22 = .ok (.iadd, 1) := by decide +kernel
theorem dX7_allCounts_23 : decode cX7_allCounts 23 = .ok (.istore_n 1, 1) := by decide +kernel
theorem dX7_allCounts_24 : decode cX7_allCounts 24 = .ok (.iinc 2 1, 3) := by decide +kernel
theorem dX7_allCounts_27 : decode cX7_allCounts 27 = .ok (.goto (-23), 3) := by decide +kernel
theorem dX7_allCounts_30 : decode cX7_allCounts 30 = .ok (.iload_n 1, 1) := by decide +kernel
theorem dX7_allCounts_31 : decode cX7_allCounts 31 = .ok (.ireturn, 1) := by decide +kernel
theorem dX7_share_0 : decode cX7_share 0 = .ok (.aload_n 0, 1) := by decide +kernel
theorem dX7_share_1 : decode cX7_share 1 = .ok (.invokevirtual 120, 3) := by decide +kernel
theorem dX7_share_4 : decode cX7_share 4 = .ok (.istore_n 2, 1) := by decide +kernel
theorem dX7_share_5 : decode cX7_share 5 = .ok (.iload_n 2, 1) := by decide +kernel
theorem dX7_share_6 : decode cX7_share 6 = .ok (.ifCond .ne 7, 3) := by decide +kernel
theorem dX7_share_9 : decode cX7_share 9 = .ok (.iconst 0, 1) := by decide +kernel
theorem dX7_share_10 : decode cX7_share 10 = .ok (.goto 15, 3) := by decide +kernel
theorem dX7_share_13 : decode cX7_share 13 = .ok (.aload_n 0, 1) := by decide +kernel
theorem dX7_share_14 : decode cX7_share 14 = .ok (.getfield 9, 3) := by decide +kernel
theorem dX7_share_17 : decode cX7_share 17 = .ok (.iload_n 1, 1) := by decide +kernel
theorem dX7_share_18 : decode cX7_share 18 = .ok (.iaload, 1) := by decide +kernel
theorem dX7_share_19 : decode cX7_share 19 = .ok (.sipush 1000, 3) := by decide +kernel
theorem dX7_share_22 : decode cX7_share 22 = .ok (.imul, 1) := by decide +kernel
theorem dX7_share_23 : decode cX7_share 23 = .ok (.iload_n 2, 1) := by decide +kernel
theorem dX7_share_24 : decode cX7_share 24 = .ok (.idiv, 1) := by decide +kernel
theorem dX7_share_25 : decode cX7_share 25 = .ok (.ireturn, 1) := by decide +kernel
theorem dX7_way_0 : decode cX7_way 0 = .ok (.aload_n 0, 1) := by decide +kernel
theorem dX7_way_1 : decode cX7_way 1 = .ok (.getfield 33, 3) := by decide +kernel
theorem dX7_way_4 : decode cX7_way 4 = .ok (.getfield 83, 3) := by decide +kernel
theorem dX7_way_7 : decode cX7_way 7 = .ok (.iload_n 1, 1) := by decide +kernel
theorem dX7_way_8 : decode cX7_way 8 = .ok (.iaload, 1) := by decide +kernel
theorem dX7_way_9 : decode cX7_way 9 = .ok (.aload_n 0, 1) := by decide +kernel
theorem dX7_way_10 : decode cX7_way 10 = .ok (.getfield 33, 3) := by decide +kernel
theorem dX7_way_13 : decode cX7_way 13 = .ok (.getfield 83, 3) := by decide +kernel
theorem dX7_way_16 : decode cX7_way 16 = .ok (.iload_n 2, 1) := by decide +kernel
theorem dX7_way_17 : decode cX7_way 17 = .ok (.iaload, 1) := by decide +kernel
theorem dX7_way_18 : decode cX7_way 18 = .ok (.invokestatic 123, 3) := by decide +kernel
theorem dX7_way_21 : decode cX7_way 21 = .ok (.aload_n 0, 1) := by decide +kernel
theorem dX7_way_22 : decode cX7_way 22 = .ok (.getfield 9, 3) := by decide +kernel
theorem dX7_way_25 : decode cX7_way 25 = .ok (.iload_n 1, 1) := by decide +kernel
theorem dX7_way_26 : decode cX7_way 26 = .ok (.iaload, 1) := by decide +kernel
theorem dX7_way_27 : decode cX7_way 27 = .ok (.aload_n 0, 1) := by decide +kernel
theorem dX7_way_28 : decode cX7_way 28 = .ok (.getfield 9, 3) := by decide +kernel
theorem dX7_way_31 : decode cX7_way 31 = .ok (.iload_n 2, 1) := by decide +kernel
theorem dX7_way_32 : decode cX7_way 32 = .ok (.iaload, 1) := by decide +kernel
theorem dX7_way_33 : decode cX7_way 33 = .ok (.invokestatic 123, 3) := by decide +kernel
theorem dX7_way_36 : decode cX7_way 36 = .ok (.imul, 1) := by decide +kernel
theorem dX7_way_37 : decode cX7_way 37 = .ok (.ireturn, 1) := by decide +kernel
theorem dX7_settled_0 : decode cX7_settled 0 = .ok (.aload_n 1, 1) := by decide +kernel
theorem dX7_settled_1 : decode cX7_settled 1 = .ok (.iconst 0, 1) := by decide +kernel
theorem dX7_settled_2 : decode cX7_settled 2 = .ok (.invokestatic 58, 3) := by decide +kernel
theorem dX7_settled_5 : decode cX7_settled 5 = .ok (.iconst 0, 1) := by decide +kernel
theorem dX7_settled_6 : decode cX7_settled 6 = .ok (.istore_n 2, 1) := by decide +kernel
theorem dX7_settled_7 : decode cX7_settled 7 = .ok (.iload_n 2, 1) := by decide +kernel
theorem dX7_settled_8 : decode cX7_settled 8 = .ok (.aload_n 0, 1) := by decide +kernel
theorem dX7_settled_9 : decode cX7_settled 9 = .ok (.invokevirtual 128, 3) := by decide +kernel
theorem dX7_settled_12 : decode cX7_settled 12 = .ok (.if_icmp .ge 21, 3) := by decide +kernel
theorem dX7_settled_15 : decode cX7_settled 15 = .ok (.aload_n 1, 1) := by decide +kernel
theorem dX7_settled_16 : decode cX7_settled 16 = .ok (.aload_n 0, 1) := by decide +kernel
theorem dX7_settled_17 : decode cX7_settled 17 = .ok (.getfield 24, 3) := by decide +kernel
theorem dX7_settled_20 : decode cX7_settled 20 = .ok (.iload_n 2, 1) := by decide +kernel
theorem dX7_settled_21 : decode cX7_settled 21 = .ok (.baload, 1) := by decide +kernel
theorem dX7_settled_22 : decode cX7_settled 22 = .ok (.dup2, 1) := by decide +kernel
theorem dX7_settled_23 : decode cX7_settled 23 = .ok (.iaload, 1) := by decide +kernel
theorem dX7_settled_24 : decode cX7_settled 24 = .ok (.iconst 1, 1) := by decide +kernel
theorem dX7_settled_25 : decode cX7_settled 25 = .ok (.iadd, 1) := by decide +kernel
theorem dX7_settled_26 : decode cX7_settled 26 = .ok (.iastore, 1) := by decide +kernel
theorem dX7_settled_27 : decode cX7_settled 27 = .ok (.iinc 2 1, 3) := by decide +kernel
theorem dX7_settled_30 : decode cX7_settled 30 = .ok (.goto (-23), 3) := by decide +kernel
theorem dX7_settled_33 : decode cX7_settled 33 = .ok (.aload_n 0, 1) := by decide +kernel
theorem dX7_settled_34 : decode cX7_settled 34 = .ok (.aload_n 1, 1) := by decide +kernel
theorem dX7_settled_35 : decode cX7_settled 35 = .ok (.invokevirtual 76, 3) := by decide +kernel
theorem dX7_settled_38 : decode cX7_settled 38 = .ok (.istore_n 2, 1) := by decide +kernel
theorem dX7_settled_39 : decode cX7_settled 39 = .ok (.aload_n 1, 1) := by decide +kernel
theorem dX7_settled_40 : decode cX7_settled 40 = .ok (.iconst 0, 1) := by decide +kernel
theorem dX7_settled_41 : decode cX7_settled 41 = .ok (.invokestatic 58, 3) := by decide +kernel
theorem dX7_settled_44 : decode cX7_settled 44 = .ok (.iconst 0, 1) := by decide +kernel
theorem dX7_settled_45 : decode cX7_settled 45 = .ok (.istore_n 3, 1) := by decide +kernel
theorem dX7_settled_46 : decode cX7_settled 46 = .ok (.iconst 0, 1) := by decide +kernel
theorem dX7_settled_47 : decode cX7_settled 47 = .ok (.istore 4, 2) := by decide +kernel
theorem dX7_settled_49 : decode cX7_settled 49 = .ok (.iload 4, 2) := by decide +kernel
theorem dX7_settled_51 : decode cX7_settled 51 = .ok (.aload_n 0, 1) := by decide +kernel
theorem dX7_settled_52 : decode cX7_settled 52 = .ok (.invokevirtual 128, 3) := by decide +kernel
theorem dX7_settled_55 : decode cX7_settled 55 = .ok (.if_icmp .ge 36, 3) := by decide +kernel
theorem dX7_settled_58 : decode cX7_settled 58 = .ok (.aload_n 0, 1) := by decide +kernel
theorem dX7_settled_59 : decode cX7_settled 59 = .ok (.aload_n 1, 1) := by decide +kernel
theorem dX7_settled_60 : decode cX7_settled 60 = .ok (.invokevirtual 76, 3) := by decide +kernel
theorem dX7_settled_63 : decode cX7_settled 63 = .ok (.iload_n 2, 1) := by decide +kernel
theorem dX7_settled_64 : decode cX7_settled 64 = .ok (.if_icmp .eq 8, 3) := by decide +kernel
theorem dX7_settled_67 : decode cX7_settled 67 = .ok (.iload 4, 2) := by decide +kernel
theorem dX7_settled_69 : decode cX7_settled 69 = .ok (.iconst 1, 1) := by decide +kernel
theorem dX7_settled_70 : decode cX7_settled 70 = .ok (.iadd, 1) := by decide +kernel
theorem dX7_settled_71 : decode cX7_settled 71 = .ok (.istore_n 3, 1) := by decide +kernel
theorem dX7_settled_72 : decode cX7_settled 72 = .ok (.aload_n 1, 1) := by decide +kernel
theorem dX7_settled_73 : decode cX7_settled 73 = .ok (.aload_n 0, 1) := by decide +kernel
theorem dX7_settled_74 : decode cX7_settled 74 = .ok (.getfield 24, 3) := by decide +kernel
theorem dX7_settled_77 : decode cX7_settled 77 = .ok (.iload 4, 2) := by decide +kernel
theorem dX7_settled_79 : decode cX7_settled 79 = .ok (.baload, 1) := by decide +kernel
theorem dX7_settled_80 : decode cX7_settled 80 = .ok (.dup2, 1) := by decide +kernel
theorem dX7_settled_81 : decode cX7_settled 81 = .ok (.iaload, 1) := by decide +kernel
theorem dX7_settled_82 : decode cX7_settled 82 = .ok (.iconst 1, 1) := by decide +kernel
theorem dX7_settled_83 : decode cX7_settled 83 = .ok (.iadd, 1) := by decide +kernel
theorem dX7_settled_84 : decode cX7_settled 84 = .ok (.iastore, 1) := by decide +kernel
theorem dX7_settled_85 : decode cX7_settled 85 = .ok (.iinc 4 1, 3) := by decide +kernel
theorem dX7_settled_88 : decode cX7_settled 88 = .ok (.goto (-39), 3) := by decide +kernel
theorem dX7_settled_91 : decode cX7_settled 91 = .ok (.iload_n 3, 1) := by decide +kernel
theorem dX7_settled_92 : decode cX7_settled 92 = .ok (.ireturn, 1) := by decide +kernel
