theorem dX6_init_0 : decode cX6_init 0 = .ok (.aload_n 0, 1) := by decide +kernel
theorem dX6_init_1 : decode cX6_init 1 = .ok (.invokespecial 3, 3) := by decide +kernel
theorem dX6_init_4 : decode cX6_init 4 = .ok (.aload_n 0, 1) := by decide +kernel
theorem dX6_init_5 : decode cX6_init 5 = .ok (.bipush 120, 2) := by decide +kernel
theorem dX6_init_7 : decode cX6_init 7 = .ok (.newarray .int, 2) := by decide +kernel
theorem dX6_init_9 : decode cX6_init 9 = .ok (.putfield 9, 3) := by decide +kernel
theorem dX6_init_12 : decode cX6_init 12 = .ok (.aload_n 0, 1) := by decide +kernel
theorem dX6_init_13 : decode cX6_init 13 = .ok (.bipush 121, 2) := by decide +kernel
theorem dX6_init_15 : decode cX6_init 15 = .ok (.newarray .int, 2) := by decide +kernel
theorem dX6_init_17 : decode cX6_init 17 = .ok (.putfield 13, 3) := by decide +kernel
theorem dX6_init_20 : decode cX6_init 20 = .ok (.return_, 1) := by decide +kernel
theorem dX6_write_0 : decode cX6_write 0 = .ok (.aload_n 0, 1) := by decide +kernel
theorem dX6_write_1 : decode cX6_write 1 = .ok (.getfield 16, 3) := by decide +kernel
theorem dX6_write_4 : decode cX6_write 4 = .ok (.bipush 120, 2) := by decide +kernel
theorem dX6_write_6 : decode cX6_write 6 = .ok (.if_icmp .ge 23, 3) := by decide +kernel
theorem dX6_write_9 : decode cX6_write 9 = .ok (.aload_n 0, 1) := by decide +kernel
theorem dX6_write_10 : decode cX6_write 10 = .ok (.getfield 9, 3) := by decide +kernel
theorem dX6_write_13 : decode cX6_write 13 = .ok (.aload_n 0, 1) := by decide +kernel
theorem dX6_write_14 : decode cX6_write 14 = .ok (.getfield 16, 3) := by decide +kernel
theorem dX6_write_17 : decode cX6_write 17 = .ok (.iload_n 1, 1) := by decide +kernel
theorem dX6_write_18 : decode cX6_write 18 = .ok (.iastore, 1) := by decide +kernel
theorem dX6_write_19 : decode cX6_write 19 = .ok (.aload_n 0, 1) := by decide +kernel
theorem dX6_write_20 : decode cX6_write 20 = .ok (.dup, 1) := by decide +kernel
theorem dX6_write_21 : decode cX6_write 21 = .ok (.getfield 16, 3) := by decide +kernel
theorem dX6_write_24 : decode cX6_write 24 = .ok (.iconst 1, 1) := by decide +kernel
theorem dX6_write_25 : decode cX6_write 25 = .ok (.iadd, 1) := by decide +kernel
theorem dX6_write_26 : decode cX6_write 26 = .ok (.putfield 16, 3) := by decide +kernel
theorem dX6_write_29 : decode cX6_write 29 = .ok (.return_, 1) := by decide +kernel
theorem dX6_read_0 : decode cX6_read 0 = .ok (.aload_n 0, 1) := by decide +kernel
theorem dX6_read_1 : decode cX6_read 1 = .ok (.iconst 0, 1) := by decide +kernel
theorem dX6_read_2 : decode cX6_read 2 = .ok (.putfield 20, 3) := by decide +kernel
theorem dX6_read_5 : decode cX6_read 5 = .ok (.aload_n 0, 1) := by decide +kernel
theorem dX6_read_6 : decode cX6_read 6 = .ok (.iconst 0, 1) := by decide +kernel
theorem dX6_read_7 : decode cX6_read 7 = .ok (.putfield 23, 3) := by decide +kernel
theorem dX6_read_10 : decode cX6_read 10 = .ok (.aload_n 0, 1) := by decide +kernel
theorem dX6_read_11 : decode cX6_read 11 = .ok (.iconst (-1), 1) := by decide +kernel
theorem dX6_read_12 : decode cX6_read 12 = .ok (.putfield 26, 3) := by decide +kernel
theorem dX6_read_15 : decode cX6_read 15 = .ok (.aload_n 0, 1) := by decide +kernel
theorem dX6_read_16 : decode cX6_read 16 = .ok (.invokevirtual 29, 3) := by decide +kernel
theorem dX6_read_19 : decode cX6_read 19 = .ok (.aload_n 0, 1) := by decide +kernel
theorem dX6_read_20 : decode cX6_read 20 = .ok (.getfield 23, 3) := by decide +kernel
theorem dX6_read_23 : decode cX6_read 23 = .ok (.aload_n 0, 1) := by decide +kernel
theorem dX6_read_24 : decode cX6_read 24 = .ok (.getfield 16, 3) := by decide +kernel
theorem dX6_read_27 : decode cX6_read 27 = .ok (.if_icmp .ge 34, 3) := by decide +kernel
theorem dX6_read_30 : decode cX6_read 30 = .ok (.aload_n 0, 1) := by decide +kernel
theorem dX6_read_31 : decode cX6_read 31 = .ok (.getfield 9, 3) := by decide +kernel
theorem dX6_read_34 : decode cX6_read 34 = .ok (.aload_n 0, 1) := by decide +kernel
theorem dX6_read_35 : decode cX6_read 35 = .ok (.getfield 23, 3) := by decide +kernel
theorem dX6_read_38 : decode cX6_read 38 = .ok (.iaload, 1) := by decide +kernel
theorem dX6_read_39 : decode cX6_read 39 = .ok (.bipush 59, 2) := by decide +kernel
theorem dX6_read_41 : decode cX6_read 41 = .ok (.if_icmp .ne 20, 3) := by decide +kernel
theorem dX6_read_44 : decode cX6_read 44 = .ok (.aload_n 0, 1) := by decide +kernel
theorem dX6_read_45 : decode cX6_read 45 = .ok (.dup, 1) := by decide +kernel
theorem dX6_read_46 : decode cX6_read 46 = .ok (.getfield 23, 3) := by decide +kernel
theorem dX6_read_49 : decode cX6_read 49 = .ok (.iconst 1, 1) := by decide +kernel
theorem dX6_read_50 : decode cX6_read 50 = .ok (.iadd, 1) := by decide +kernel
theorem dX6_read_51 : decode cX6_read 51 = .ok (.putfield 23, 3) := by decide +kernel
theorem dX6_read_54 : decode cX6_read 54 = .ok (.aload_n 0, 1) := by decide +kernel
theorem dX6_read_55 : decode cX6_read 55 = .ok (.invokevirtual 29, 3) := by decide +kernel
theorem dX6_read_58 : decode cX6_read 58 = .ok (.goto (-39), 3) := by decide +kernel
theorem dX6_read_61 : decode cX6_read 61 = .ok (.aload_n 0, 1) := by decide +kernel
theorem dX6_read_62 : decode cX6_read 62 = .ok (.getfield 23, 3) := by decide +kernel
theorem dX6_read_65 : decode cX6_read 65 = .ok (.aload_n 0, 1) := by decide +kernel
theorem dX6_read_66 : decode cX6_read 66 = .ok (.getfield 16, 3) := by decide +kernel
theorem dX6_read_69 : decode cX6_read 69 = .ok (.if_icmp .ge 7, 3) := by decide +kernel
theorem dX6_read_72 : decode cX6_read 72 = .ok (.aload_n 0, 1) := by decide +kernel
theorem dX6_read_73 : decode cX6_read 73 = .ok (.invokevirtual 32, 3) := by decide +kernel
theorem dX6_read_76 : decode cX6_read 76 = .ok (.aload_n 0, 1) := by decide +kernel
theorem dX6_read_77 : decode cX6_read 77 = .ok (.iconst 0, 1) := by decide +kernel
theorem dX6_read_78 : decode cX6_read 78 = .ok (.putfield 16, 3) := by decide +kernel
theorem dX6_read_81 : decode cX6_read 81 = .ok (.aload_n 0, 1) := by decide +kernel
theorem dX6_read_82 : decode cX6_read 82 = .ok (.getfield 26, 3) := by decide +kernel
theorem dX6_read_85 : decode cX6_read 85 = .ok (.ireturn, 1) := by decide +kernel
theorem dX6_codeRead_0 : decode cX6_codeRead 0 = .ok (.aload_n 0, 1) := by decide +kernel
theorem dX6_codeRead_1 : decode cX6_codeRead 1 = .ok (.getfield 13, 3) := by decide +kernel
theorem dX6_codeRead_4 : decode cX6_codeRead 4 = .ok (.aload_n 0, 1) := by decide +kernel
theorem dX6_codeRead_5 : decode cX6_codeRead 5 = .ok (.getfield 20, 3) := by decide +kernel
theorem dX6_codeRead_8 : decode cX6_codeRead 8 = .ok (.invokestatic 35, 3) := by decide +kernel
theorem dX6_codeRead_11 : decode cX6_codeRead 11 = .ok (.areturn, 1) := by decide +kernel
theorem dX6_fail_0 : decode cX6_fail 0 = .ok (.aload_n 0, 1) := by decide +kernel
theorem dX6_fail_1 : decode cX6_fail 1 = .ok (.getfield 26, 3) := by decide +kernel
theorem dX6_fail_4 : decode cX6_fail 4 = .ok (.ifCond .ge 11, 3) := by decide +kernel
theorem dX6_fail_7 : decode cX6_fail 7 = .ok (.aload_n 0, 1) := by decide +kernel
theorem dX6_fail_8 : decode cX6_fail 8 = .ok (.aload_n 0, 1) := by decide +kernel
theorem dX6_fail_9 : decode cX6_fail 9 = .ok (.getfield 23, 3) := by decide +kernel
theorem dX6_fail_12 : decode cX6_fail 12 = .ok (.putfield 26, 3) := by decide +kernel
theorem dX6_fail_15 : decode cX6_fail 15 = .ok (.aload_n 0, 1) := by decide +kernel
theorem dX6_fail_16 : decode cX6_fail 16 = .ok (.aload_n 0, 1) := by decide +kernel
theorem dX6_fail_17 : decode cX6_fail 17 = .ok (.getfield 16, 3) := by decide +kernel
theorem dX6_fail_20 : decode cX6_fail 20 = .ok (.putfield 23, 3) := by decide +kernel
theorem dX6_fail_23 : decode cX6_fail 23 = .ok (.return_, 1) := by decide +kernel
theorem dX6_next_0 : decode cX6_next 0 = .ok (.aload_n 0, 1) := by decide +kernel
theorem dX6_next_1 : decode cX6_next 1 = .ok (.getfield 23, 3) := by decide +kernel
theorem dX6_next_4 : decode cX6_next 4 = .ok (.aload_n 0, 1) := by decide +kernel
theorem dX6_next_5 : decode cX6_next 5 = .ok (.getfield 16, 3) := by decide +kernel
theorem dX6_next_8 : decode cX6_next 8 = .ok (.if_icmp .ge 24, 3) := by decide +kernel
theorem dX6_next_11 : decode cX6_next 11 = .ok (.aload_n 0, 1) := by decide +kernel
theorem dX6_next_12 : decode cX6_next 12 = .ok (.getfield 23, 3) := by decide +kernel
theorem dX6_next_15 : decode cX6_next 15 = .ok (.bipush 120, 2) := by decide +kernel
theorem dX6_next_17 : decode cX6_next 17 = .ok (.if_icmp .ge 15, 3) := by decide +kernel
theorem dX6_next_20 : decode cX6_next 20 = .ok (.aload_n 0, 1) := by decide +kernel
theorem dX6_next_21 : decode cX6_next 21 = .ok (.getfield 9, 3) := by decide +kernel
theorem dX6_next_24 : decode cX6_next 24 = .ok (.aload_n 0, 1) := by decide +kernel
theorem dX6_next_25 : decode cX6_next 25 = .ok (.getfield 23, 3) := by decide +kernel
theorem dX6_next_28 : decode cX6_next 28 = .ok (.iaload, 1) := by decide +kernel
theorem dX6_next_29 : decode cX6_next 29 = .ok (.goto 4, 3) := by decide +kernel
theorem dX6_next_32 : decode cX6_next 32 = .ok (.iconst (-1), 1) := by decide +kernel
theorem dX6_next_33 : decode cX6_next 33 = .ok (.ireturn, 1) := by decide +kernel
theorem dX6_mark_0 : decode cX6_mark 0 = .ok (.aload_n 0, 1) := by decide +kernel
theorem dX6_mark_1 : decode cX6_mark 1 = .ok (.getfield 20, 3) := by decide +kernel
theorem dX6_mark_4 : decode cX6_mark 4 = .ok (.bipush 121, 2) := by decide +kernel
theorem dX6_mark_6 : decode cX6_mark 6 = .ok (.if_icmp .ge 28, 3) := by decide +kernel
theorem dX6_mark_9 : decode cX6_mark 9 = .ok (.aload_n 0, 1) := by decide +kernel
theorem dX6_mark_10 : decode cX6_mark 10 = .ok (.getfield 13, 3) := by decide +kernel
theorem dX6_mark_13 : decode cX6_mark 13 = .ok (.aload_n 0, 1) := by decide +kernel
theorem dX6_mark_14 : decode cX6_mark 14 = .ok (.getfield 20, 3) := by decide +kernel
theorem dX6_mark_17 : decode cX6_mark 17 = .ok (.iload_n 1, 1) := by decide +kernel
theorem dX6_mark_18 : decode cX6_mark 18 = .ok (.iload_n 2, 1) := by decide +kernel
theorem dX6_mark_19 : decode cX6_mark 19 = .ok (.bipush 8, 2) := by decide +kernel
theorem dX6_mark_21 : decode cX6_mark 21 = .ok (.ishl, 1) := by decide +kernel
theorem dX6_mark_22 : decode cX6_mark 22 = .ok (.ior, 1) := by decide +kernel
theorem dX6_mark_23 : decode cX6_mark 23 = .ok (.iastore, 1) := by decide +kernel
theorem dX6_mark_24 : decode cX6_mark 24 = .ok (.aload_n 0, 1) := by decide +kernel
theorem dX6_mark_25 : decode cX6_mark 25 = .ok (.dup, 1) := by decide +kernel
theorem dX6_mark_26 : decode cX6_mark 26 = .ok (.getfield 20, 3) := by decide +kernel
theorem dX6_mark_29 : decode cX6_mark 29 = .ok (.iconst 1, 1) := by decide +kernel
theorem dX6_mark_30 : decode cX6_mark 30 = .ok (.iadd, 1) := by decide +kernel
theorem dX6_mark_31 : decode cX6_mark 31 = .ok (.putfield 20, 3) := by decide +kernel
theorem dX6_mark_34 : decode cX6_mark 34 = .ok (.return_, 1) := by decide +kernel
theorem dX6_readLine_0 : decode cX6_readLine 0 = .ok (.aload_n 0, 1) := by decide +kernel
theorem dX6_readLine_1 : decode cX6_readLine 1 = .ok (.iconst 0, 1) := by decide +kernel
theorem dX6_readLine_2 : decode cX6_readLine 2 = .ok (.invokevirtual 41, 3) := by decide +kernel
theorem dX6_readLine_5 : decode cX6_readLine 5 = .ok (.aload_n 0, 1) := by decide +kernel
theorem dX6_readLine_6 : decode cX6_readLine 6 = .ok (.invokevirtual 45, 3) := by decide +kernel
theorem dX6_readLine_9 : decode cX6_readLine 9 = .ok (.bipush 63, 2) := by decide +kernel
theorem dX6_readLine_11 : decode cX6_readLine 11 = .ok (.if_icmp .eq 10, 3) := by decide +kernel
theorem dX6_readLine_14 : decode cX6_readLine 14 = .ok (.aload_n 0, 1) := by decide +kernel
theorem dX6_readLine_15 : decode cX6_readLine 15 = .ok (.iconst 5, 1) := by decide +kernel
theorem dX6_readLine_16 : decode cX6_readLine 16 = .ok (.iconst 0, 1) := by decide +kernel
theorem dX6_readLine_17 : decode cX6_readLine 17 = .ok (.invokevirtual 51, 3) := by decide +kernel
theorem dX6_readLine_20 : decode cX6_readLine 20 = .ok (.return_, 1) := by decide +kernel
theorem dX6_readLine_21 : decode cX6_readLine 21 = .ok (.aload_n 0, 1) := by decide +kernel
theorem dX6_readLine_22 : decode cX6_readLine 22 = .ok (.dup, 1) := by decide +kernel
theorem dX6_readLine_23 : decode cX6_readLine 23 = .ok (.getfield 23, 3) := by decide +kernel
theorem dX6_readLine_26 : decode cX6_readLine 26 = .ok (.iconst 1, 1) := by decide +kernel
theorem dX6_readLine_27 : decode cX6_readLine 27 = .ok (.iadd, 1) := by decide +kernel
theorem dX6_readLine_28 : decode cX6_readLine 28 = .ok (.putfield 23, 3) := by decide +kernel
theorem dX6_readLine_31 : decode cX6_readLine 31 = .ok (.aload_n 0, 1) := by decide +kernel
theorem dX6_readLine_32 : decode cX6_readLine 32 = .ok (.getfield 20, 3) := by decide +kernel
theorem dX6_readLine_35 : decode cX6_readLine 35 = .ok (.istore_n 1, 1) := by decide +kernel
theorem dX6_readLine_36 : decode cX6_readLine 36 = .ok (.aload_n 0, 1) := by decide +kernel
theorem dX6_readLine_37 : decode cX6_readLine 37 = .ok (.iconst 4, 1) := by decide +kernel
theorem dX6_readLine_38 : decode cX6_readLine 38 = .ok (.iconst 0, 1) := by decide +kernel
theorem dX6_readLine_39 : decode cX6_readLine 39 = .ok (.invokevirtual 51, 3) := by decide +kernel
theorem dX6_readLine_42 : decode cX6_readLine 42 = .ok (.aload_n 0, 1) := by decide +kernel
theorem dX6_readLine_43 : decode cX6_readLine 43 = .ok (.iconst 0, 1) := by decide +kernel
theorem dX6_readLine_44 : decode cX6_readLine 44 = .ok (.invokevirtual 41, 3) := by decide +kernel
theorem dX6_readLine_47 : decode cX6_readLine 47 = .ok (.aload_n 0, 1) := by decide +kernel
theorem dX6_readLine_48 : decode cX6_readLine 48 = .ok (.iconst 5, 1) := by decide +kernel
theorem dX6_readLine_49 : decode cX6_readLine 49 = .ok (.iconst 0, 1) := by decide +kernel
theorem dX6_readLine_50 : decode cX6_readLine 50 = .ok (.invokevirtual 51, 3) := by decide +kernel
theorem dX6_readLine_53 : decode cX6_readLine 53 = .ok (.iload_n 1, 1) := by decide +kernel
theorem dX6_readLine_54 : decode cX6_readLine 54 = .ok (.bipush 121, 2) := by decide +kernel
theorem dX6_readLine_56 : decode cX6_readLine 56 = .ok (.if_icmp .ge 18, 3) := by decide +kernel
theorem dX6_readLine_59 : decode cX6_readLine 59 = .ok (.aload_n 0, 1) := by decide +kernel
theorem dX6_readLine_60 : decode cX6_readLine 60 = .ok (.getfield 13, 3) := by decide +kernel
theorem dX6_readLine_63 : decode cX6_readLine 63 = .ok (.iload_n 1, 1) := by decide +kernel
theorem dX6_readLine_64 : decode cX6_readLine 64 = .ok (.iconst 4, 1) := by decide +kernel
theorem dX6_readLine_65 : decode cX6_readLine 65 = .ok (.aload_n 0, 1) := by decide +kernel
theorem dX6_readLine_66 : decode cX6_readLine 66 = .ok (.getfield 20, 3) := by decide +kernel
theorem dX6_readLine_69 : decode cX6_readLine 69 = .ok (.bipush 8, 2) := by decide +kernel
theorem dX6_readLine_71 : decode cX6_readLine 71 = .ok (.ishl, 1) := by decide +kernel
theorem dX6_readLine_72 : decode cX6_readLine 72 = .ok (.ior, 1) := by decide +kernel
theorem dX6_readLine_73 : decode cX6_readLine 73 = .ok (.iastore, 1) := by decide +kernel
theorem dX6_readLine_74 : decode cX6_readLine 74 = .ok (.return_, 1) := by decide +kernel
theorem dX6_readAny_0 : decode cX6_readAny 0 = .ok (.aload_n 0, 1) := by decide +kernel
theorem dX6_readAny_1 : decode cX6_readAny 1 = .ok (.iload_n 1, 1) := by decide +kernel
theorem dX6_readAny_2 : decode cX6_readAny 2 = .ok (.invokevirtual 55, 3) := by decide +kernel
theorem dX6_readAny_5 : decode cX6_readAny 5 = .ok (.aload_n 0, 1) := by decide +kernel
theorem dX6_readAny_6 : decode cX6_readAny 6 = .ok (.getfield 23, 3) := by decide +kernel
theorem dX6_readAny_9 : decode cX6_readAny 9 = .ok (.aload_n 0, 1) := by decide +kernel
theorem dX6_readAny_10 : decode cX6_readAny 10 = .ok (.getfield 16, 3) := by decide +kernel
theorem dX6_readAny_13 : decode cX6_readAny 13 = .ok (.if_icmp .ge 42, 3) := by decide +kernel
theorem dX6_readAny_16 : decode cX6_readAny 16 = .ok (.aload_n 0, 1) := by decide +kernel
theorem dX6_readAny_17 : decode cX6_readAny 17 = .ok (.getfield 9, 3) := by decide +kernel
theorem dX6_readAny_20 : decode cX6_readAny 20 = .ok (.aload_n 0, 1) := by decide +kernel
theorem dX6_readAny_21 : decode cX6_readAny 21 = .ok (.getfield 23, 3) := by decide +kernel
theorem dX6_readAny_24 : decode cX6_readAny 24 = .ok (.iaload, 1) := by decide +kernel
theorem dX6_readAny_25 : decode cX6_readAny 25 = .ok (.bipush 124, 2) := by decide +kernel
theorem dX6_readAny_27 : decode cX6_readAny 27 = .ok (.if_icmp .ne 28, 3) := by decide +kernel
theorem dX6_readAny_30 : decode cX6_readAny 30 = .ok (.aload_n 0, 1) := by decide +kernel
theorem dX6_readAny_31 : decode cX6_readAny 31 = .ok (.dup, 1) := by decide +kernel
theorem dX6_readAny_32 : decode cX6_readAny 32 = .ok (.getfield 23, 3) := by decide +kernel
theorem dX6_readAny_35 : decode cX6_readAny 35 = .ok (.iconst 1, 1) := by decide +kernel
theorem dX6_readAny_36 : decode cX6_readAny 36 = .ok (.iadd, 1) := by decide +kernel
theorem dX6_readAny_37 : decode cX6_readAny 37 = .ok (.putfield 23, 3) := by decide +kernel
theorem dX6_readAny_40 : decode cX6_readAny 40 = .ok (.aload_n 0, 1) := by decide +kernel
theorem dX6_readAny_41 : decode cX6_readAny 41 = .ok (.iload_n 1, 1) := by decide +kernel
theorem dX6_readAny_42 : decode cX6_readAny 42 = .ok (.invokevirtual 55, 3) := by decide +kernel
theorem dX6_readAny_45 : decode cX6_readAny 45 = .ok (.aload_n 0, 1) := by decide +kernel
theorem dX6_readAny_46 : decode cX6_readAny 46 = .ok (.bipush 6, 2) := by decide +kernel
theorem dX6_readAny_48 : decode cX6_readAny 48 = .ok (.iconst 0, 1) := by decide +kernel
theorem dX6_readAny_49 : decode cX6_readAny 49 = .ok (.invokevirtual 51, 3) := by decide +kernel
theorem dX6_readAny_52 : decode cX6_readAny 52 = .ok (.goto (-47), 3) := by decide +kernel
theorem dX6_readAny_55 : decode cX6_readAny 55 = .ok (.return_, 1) := by decide +kernel
theorem dX6_readAll_0 : decode cX6_readAll 0 = .ok (.aload_n 0, 1) := by decide +kernel
theorem dX6_readAll_1 : decode cX6_readAll 1 = .ok (.iload_n 1, 1) := by decide +kernel
theorem dX6_readAll_2 : decode cX6_readAll 2 = .ok (.invokevirtual 58, 3) := by decide +kernel
theorem dX6_readAll_5 : decode cX6_readAll 5 = .ok (.aload_n 0, 1) := by decide +kernel
theorem dX6_readAll_6 : decode cX6_readAll 6 = .ok (.getfield 23, 3) := by decide +kernel
theorem dX6_readAll_9 : decode cX6_readAll 9 = .ok (.aload_n 0, 1) := by decide +kernel
theorem dX6_readAll_10 : decode cX6_readAll 10 = .ok (.getfield 16, 3) := by decide +kernel
theorem dX6_readAll_13 : decode cX6_readAll 13 = .ok (.if_icmp .ge 42, 3) := by decide +kernel
theorem dX6_readAll_16 : decode cX6_readAll 16 = .ok (.aload_n 0, 1) := by decide +kernel
theorem dX6_readAll_17 : decode cX6_readAll 17 = .ok (.getfield 9, 3) := by decide +kernel
theorem dX6_readAll_20 : decode cX6_readAll 20 = .ok (.aload_n 0, 1) := by decide +kernel
theorem dX6_readAll_21 : decode cX6_readAll 21 = .ok (.getfield 23, 3) := by decide +kernel
theorem dX6_readAll_24 : decode cX6_readAll 24 = .ok (.iaload, 1) := by decide +kernel
theorem dX6_readAll_25 : decode cX6_readAll 25 = .ok (.bipush 38, 2) := by decide +kernel
theorem dX6_readAll_27 : decode cX6_readAll 27 = .ok (.if_icmp .ne 28, 3) := by decide +kernel
theorem dX6_readAll_30 : decode cX6_readAll 30 = .ok (.aload_n 0, 1) := by decide +kernel
theorem dX6_readAll_31 : decode cX6_readAll 31 = .ok (.dup, 1) := by decide +kernel
theorem dX6_readAll_32 : decode cX6_readAll 32 = .ok (.getfield 23, 3) := by decide +kernel
theorem dX6_readAll_35 : decode cX6_readAll 35 = .ok (.iconst 1, 1) := by decide +kernel
theorem dX6_readAll_36 : decode cX6_readAll 36 = .ok (.iadd, 1) := by decide +kernel
theorem dX6_readAll_37 : decode cX6_readAll 37 = .ok (.putfield 23, 3) := by decide +kernel
theorem dX6_readAll_40 : decode cX6_readAll 40 = .ok (.aload_n 0, 1) := by decide +kernel
theorem dX6_readAll_41 : decode cX6_readAll 41 = .ok (.iload_n 1, 1) := by decide +kernel
theorem dX6_readAll_42 : decode cX6_readAll 42 = .ok (.invokevirtual 58, 3) := by decide +kernel
theorem dX6_readAll_45 : decode cX6_readAll 45 = .ok (.aload_n 0, 1) := by decide +kernel
theorem dX6_readAll_46 : decode cX6_readAll 46 = .ok (.bipush 7, 2) := by decide +kernel
theorem dX6_readAll_48 : decode cX6_readAll 48 = .ok (.iconst 0, 1) := by decide +kernel
theorem dX6_readAll_49 : decode cX6_readAll 49 = .ok (.invokevirtual 51, 3) := by decide +kernel
theorem dX6_readAll_52 : decode cX6_readAll 52 = .ok (.goto (-47), 3) := by decide +kernel
theorem dX6_readAll_55 : decode cX6_readAll 55 = .ok (.return_, 1) := by decide +kernel
theorem dX6_readCompared_0 : decode cX6_readCompared 0 = .ok (.aload_n 0, 1) := by decide +kernel
theorem dX6_readCompared_1 : decode cX6_readCompared 1 = .ok (.iload_n 1, 1) := by decide +kernel
theorem dX6_readCompared_2 : decode cX6_readCompared 2 = .ok (.invokevirtual 61, 3) := by decide +kernel
theorem dX6_readCompared_5 : decode cX6_readCompared 5 = .ok (.aload_n 0, 1) := by decide +kernel
theorem dX6_readCompared_6 : decode cX6_readCompared 6 = .ok (.invokevirtual 45, 3) := by decide +kernel
theorem dX6_readCompared_9 : decode cX6_readCompared 9 = .ok (.istore_n 2, 1) := by decide +kernel
theorem dX6_readCompared_10 : decode cX6_readCompared 10 = .ok (.iload_n 2, 1) := by decide +kernel
theorem dX6_readCompared_11 : decode cX6_readCompared 11 = .ok (.bipush 60, 2) := by decide +kernel
theorem dX6_readCompared_13 : decode cX6_readCompared 13 = .ok (.if_icmp .eq 15, 3) := by decide +kernel
theorem dX6_readCompared_16 : decode cX6_readCompared 16 = .ok (.iload_n 2, 1) := by decide +kernel
theorem dX6_readCompared_17 : decode cX6_readCompared 17 = .ok (.bipush 61, 2) := by decide +kernel
theorem dX6_readCompared_19 : decode cX6_readCompared 19 = .ok (.if_icmp .eq 9, 3) := by decide +kernel
theorem dX6_readCompared_22 : decode cX6_readCompared 22 = .ok (.iload_n 2, 1) := by decide +kernel
theorem dX6_readCompared_23 : decode cX6_readCompared 23 = .ok (.bipush 62, 2) := by decide +kernel
theorem dX6_readCompared_25 : decode cX6_readCompared 25 = .ok (.if_icmp .ne 47, 3) := by decide +kernel
theorem dX6_readCompared_28 : decode cX6_readCompared 28 = .ok (.aload_n 0, 1) := by decide +kernel
theorem dX6_readCompared_29 : decode cX6_readCompared 29 = .ok (.dup, 1) := by decide +kernel
theorem dX6_readCompared_30 : decode cX6_readCompared 30 = .ok (.getfield 23, 3) := by decide +kernel
theorem dX6_readCompared_33 : decode cX6_readCompared 33 = .ok (.iconst 1, 1) := by decide +kernel
theorem dX6_readCompared_34 : decode cX6_readCompared 34 = .ok (.iadd, 1) := by decide +kernel
theorem dX6_readCompared_35 : decode cX6_readCompared 35 = .ok (.putfield 23, 3) := by decide +kernel
theorem dX6_readCompared_38 : decode cX6_readCompared 38 = .ok (.aload_n 0, 1) := by decide +kernel
theorem dX6_readCompared_39 : decode cX6_readCompared 39 = .ok (.iload_n 1, 1) := by decide +kernel
theorem dX6_readCompared_40 : decode cX6_readCompared 40 = .ok (.invokevirtual 61, 3) := by decide +kernel
theorem dX6_readCompared_43 : decode cX6_readCompared 43 = .ok (.aload_n 0, 1) := by decide +kernel
theorem dX6_readCompared_44 : decode cX6_readCompared 44 = .ok (.iload_n 2, 1) := by decide +kernel
theorem dX6_readCompared_45 : decode cX6_readCompared 45 = .ok (.bipush 60, 2) := by decide +kernel
theorem dX6_readCompared_47 : decode cX6_readCompared 47 = .ok (.if_icmp .ne 8, 3) := by decide +kernel
theorem dX6_readCompared_50 : decode cX6_readCompared 50 = .ok (.bipush 8, 2) := by decide +kernel
theorem dX6_readCompared_52 : decode cX6_readCompared 52 = .ok (.goto 16, 3) := by decide +kernel
theorem dX6_readCompared_55 : decode cX6_readCompared 55 = .ok (.iload_n 2, 1) := by decide +kernel
theorem dX6_readCompared_56 : decode cX6_readCompared 56 = .ok (.bipush 61, 2) := by decide +kernel
theorem dX6_readCompared_58 : decode cX6_readCompared 58 = .ok (.if_icmp .ne 8, 3) := by decide +kernel
theorem dX6_readCompared_61 : decode cX6_readCompared 61 = .ok (.bipush 9, 2) := by decide +kernel
theorem dX6_readCompared_63 : decode cX6_readCompared 63 = .ok (.goto 5, 3) := by decide +kernel
theorem dX6_readCompared_66 : decode cX6_readCompared 66 = .ok (.bipush 10, 2) := by decide +kernel
theorem dX6_readCompared_68 : decode cX6_readCompared 68 = .ok (.iconst 0, 1) := by decide +kernel
theorem dX6_readCompared_69 : decode cX6_readCompared 69 = .ok (.invokevirtual 51, 3) := by decide +kernel
theorem dX6_readCompared_72 : decode cX6_readCompared 72 = .ok (.return_, 1) := by decide +kernel
theorem dX6_readSum_0 : decode cX6_readSum 0 = .ok (.aload_n 0, 1) := by decide +kernel
theorem dX6_readSum_1 : decode cX6_readSum 1 = .ok (.iload_n 1, 1) := by decide +kernel
theorem dX6_readSum_2 : decode cX6_readSum 2 = .ok (.invokevirtual 64, 3) := by decide +kernel
theorem dX6_readSum_5 : decode cX6_readSum 5 = .ok (.aload_n 0, 1) := by decide +kernel
theorem dX6_readSum_6 : decode cX6_readSum 6 = .ok (.getfield 23, 3) := by decide +kernel
theorem dX6_readSum_9 : decode cX6_readSum 9 = .ok (.aload_n 0, 1) := by decide +kernel
theorem dX6_readSum_10 : decode cX6_readSum 10 = .ok (.getfield 16, 3) := by decide +kernel
theorem dX6_readSum_13 : decode cX6_readSum 13 = .ok (.if_icmp .ge 77, 3) := by decide +kernel
theorem dX6_readSum_16 : decode cX6_readSum 16 = .ok (.aload_n 0, 1) := by decide +kernel
theorem dX6_readSum_17 : decode cX6_readSum 17 = .ok (.getfield 9, 3) := by decide +kernel
theorem dX6_readSum_20 : decode cX6_readSum 20 = .ok (.aload_n 0, 1) := by decide +kernel
theorem dX6_readSum_21 : decode cX6_readSum 21 = .ok (.getfield 23, 3) := by decide +kernel
theorem dX6_readSum_24 : decode cX6_readSum 24 = .ok (.iaload, 1) := by decide +kernel
theorem dX6_readSum_25 : decode cX6_readSum 25 = .ok (.bipush 43, 2) := by decide +kernel
theorem dX6_readSum_27 : decode cX6_readSum 27 = .ok (.if_icmp .eq 17, 3) := by decide +kernel
theorem dX6_readSum_30 : decode cX6_readSum 30 = .ok (.aload_n 0, 1) := by decide +kernel
theorem dX6_readSum_31 : decode cX6_readSum 31 = .ok (.getfield 9, 3) := by decide +kernel
theorem dX6_readSum_34 : decode cX6_readSum 34 = .ok (.aload_n 0, 1) := by decide +kernel
theorem dX6_readSum_35 : decode cX6_readSum 35 = .ok (.getfield 23, 3) := by decide +kernel
theorem dX6_readSum_38 : decode cX6_readSum 38 = .ok (.iaload, 1) := by decide +kernel
theorem dX6_readSum_39 : decode cX6_readSum 39 = .ok (.bipush 45, 2) := by decide +kernel
theorem dX6_readSum_41 : decode cX6_readSum 41 = .ok (.if_icmp .ne 49, 3) := by decide +kernel
theorem dX6_readSum_44 : decode cX6_readSum 44 = .ok (.aload_n 0, 1) := by decide +kernel
theorem dX6_readSum_45 : decode cX6_readSum 45 = .ok (.getfield 9, 3) := by decide +kernel
theorem dX6_readSum_48 : decode cX6_readSum 48 = .ok (.aload_n 0, 1) := by decide +kernel
theorem dX6_readSum_49 : decode cX6_readSum 49 = .ok (.getfield 23, 3) := by decide +kernel
theorem dX6_readSum_52 : decode cX6_readSum 52 = .ok (.iaload, 1) := by decide +kernel
theorem dX6_readSum_53 : decode cX6_readSum 53 = .ok (.istore_n 2, 1) := by decide +kernel
theorem dX6_readSum_54 : decode cX6_readSum 54 = .ok (.aload_n 0, 1) := by decide +kernel
theorem dX6_readSum_55 : decode cX6_readSum 55 = .ok (.dup, 1) := by decide +kernel
theorem dX6_readSum_56 : decode cX6_readSum 56 = .ok (.getfield 23, 3) := by decide +kernel
theorem dX6_readSum_59 : decode cX6_readSum 59 = .ok (.iconst 1, 1) := by decide +kernel
theorem dX6_readSum_60 : decode cX6_readSum 60 = .ok (.iadd, 1) := by decide +kernel
theorem dX6_readSum_61 : decode cX6_readSum 61 = .ok (.putfield 23, 3) := by decide +kernel
theorem dX6_readSum_64 : decode cX6_readSum 64 = .ok (.aload_n 0, 1) := by decide +kernel
theorem dX6_readSum_65 : decode cX6_readSum 65 = .ok (.iload_n 1, 1) := by decide +kernel
theorem dX6_readSum_66 : decode cX6_readSum 66 = .ok (.invokevirtual 64, 3) := by decide +kernel
theorem dX6_readSum_69 : decode cX6_readSum 69 = .ok (.aload_n 0, 1) := by decide +kernel
theorem dX6_readSum_70 : decode cX6_readSum 70 = .ok (.iload_n 2, 1) := by decide +kernel
theorem dX6_readSum_71 : decode cX6_readSum 71 = .ok (.bipush 43, 2) := by decide +kernel
theorem dX6_readSum_73 : decode cX6_readSum 73 = .ok (.if_icmp .ne 8, 3) := by decide +kernel
theorem dX6_readSum_76 : decode cX6_readSum 76 = .ok (.bipush 11, 2) := by decide +kernel
theorem dX6_readSum_78 : decode cX6_readSum 78 = .ok (.goto 5, 3) := by decide +kernel
theorem dX6_readSum_81 : decode cX6_readSum 81 = .ok (.bipush 12, 2) := by decide +kernel
theorem dX6_readSum_83 : decode cX6_readSum 83 = .ok (.iconst 0, 1) := by decide +kernel
theorem dX6_readSum_84 : decode cX6_readSum 84 = .ok (.invokevirtual 51, 3) := by decide +kernel
theorem dX6_readSum_87 : decode cX6_readSum 87 = .ok (.goto (-82), 3) := by decide +kernel
theorem dX6_readSum_90 : decode cX6_readSum 90 = .ok (.return_, 1) := by decide +kernel
theorem dX6_readProduct_0 : decode cX6_readProduct 0 = .ok (.aload_n 0, 1) := by decide +kernel
theorem dX6_readProduct_1 : decode cX6_readProduct 1 = .ok (.iload_n 1, 1) := by decide +kernel
theorem dX6_readProduct_2 : decode cX6_readProduct 2 = .ok (.invokevirtual 67, 3) := by decide +kernel
theorem dX6_readProduct_5 : decode cX6_readProduct 5 = .ok (.aload_n 0, 1) := by decide +kernel
theorem dX6_readProduct_6 : decode cX6_readProduct 6 = .ok (.getfield 23, 3) := by decide +kernel
theorem dX6_readProduct_9 : decode cX6_readProduct 9 = .ok (.aload_n 0, 1) := by decide +kernel
theorem dX6_readProduct_10 : decode cX6_readProduct 10 = .ok (.getfield 16, 3) := by decide +kernel
theorem dX6_readProduct_13 : decode cX6_readProduct 13 = .ok (.if_icmp .ge 102, 3) := by decide +kernel
theorem dX6_readProduct_16 : decode cX6_readProduct 16 = .ok (.aload_n 0, 1) := by decide +kernel
theorem dX6_readProduct_17 : decode cX6_readProduct 17 = .ok (.getfield 9, 3) := by decide +kernel
theorem dX6_readProduct_20 : decode cX6_readProduct 20 = .ok (.aload_n 0, 1) := by decide +kernel
theorem dX6_readProduct_21 : decode cX6_readProduct 21 = .ok (.getfield 23, 3) := by decide +kernel
theorem dX6_readProduct_24 : decode cX6_readProduct 24 = .ok (.iaload, 1) := by decide +kernel
theorem dX6_readProduct_25 : decode cX6_readProduct 25 = .ok (.bipush 42, 2) := by decide +kernel
theorem dX6_readProduct_27 : decode cX6_readProduct 27 = .ok (.if_icmp .eq 31, 3) := by decide +kernel
theorem dX6_readProduct_30 : decode cX6_readProduct 30 = .ok (.aload_n 0, 1) := by decide +kernel
theorem dX6_readProduct_31 : decode cX6_readProduct 31 = .ok (.getfield 9, 3) := by decide +kernel
theorem dX6_readProduct_34 : decode cX6_readProduct 34 = .ok (.aload_n 0, 1) := by decide +kernel
theorem dX6_readProduct_35 : decode cX6_readProduct 35 = .ok (.getfield 23, 3) := by decide +kernel
theorem dX6_readProduct_38 : decode cX6_readProduct 38 = .ok (.iaload, 1) := by decide +kernel
theorem dX6_readProduct_39 : decode cX6_readProduct 39 = .ok (.bipush 47, 2) := by decide +kernel
theorem dX6_readProduct_41 : decode cX6_readProduct 41 = .ok (.if_icmp .eq 17, 3) := by decide +kernel
theorem dX6_readProduct_44 : decode cX6_readProduct 44 = .ok (.aload_n 0, 1) := by decide +kernel
theorem dX6_readProduct_45 : decode cX6_readProduct 45 = .ok (.getfield 9, 3) := by decide +kernel
theorem dX6_readProduct_48 : decode cX6_readProduct 48 = .ok (.aload_n 0, 1) := by decide +kernel
theorem dX6_readProduct_49 : decode cX6_readProduct 49 = .ok (.getfield 23, 3) := by decide +kernel
theorem dX6_readProduct_52 : decode cX6_readProduct 52 = .ok (.iaload, 1) := by decide +kernel
theorem dX6_readProduct_53 : decode cX6_readProduct 53 = .ok (.bipush 37, 2) := by decide +kernel
theorem dX6_readProduct_55 : decode cX6_readProduct 55 = .ok (.if_icmp .ne 60, 3) := by decide +kernel
theorem dX6_readProduct_58 : decode cX6_readProduct 58 = .ok (.aload_n 0, 1) := by decide +kernel
theorem dX6_readProduct_59 : decode cX6_readProduct 59 = .ok (.getfield 9, 3) := by decide +kernel
theorem dX6_readProduct_62 : decode cX6_readProduct 62 = .ok (.aload_n 0, 1) := by decide +kernel
theorem dX6_readProduct_63 : decode cX6_readProduct 63 = .ok (.getfield 23, 3) := by decide +kernel
theorem dX6_readProduct_66 : decode cX6_readProduct 66 = .ok (.iaload, 1) := by decide +kernel
theorem dX6_readProduct_67 : decode cX6_readProduct 67 = .ok (.istore_n 2, 1) := by decide +kernel
theorem dX6_readProduct_68 : decode cX6_readProduct 68 = .ok (.aload_n 0, 1) := by decide +kernel
theorem dX6_readProduct_69 : decode cX6_readProduct 69 = .ok (.dup, 1) := by decide +kernel
theorem dX6_readProduct_70 : decode cX6_readProduct 70 = .ok (.getfield 23, 3) := by decide +kernel
theorem dX6_readProduct_73 : decode cX6_readProduct 73 = .ok (.iconst 1, 1) := by decide +kernel
theorem dX6_readProduct_74 : decode cX6_readProduct 74 = .ok (.iadd, 1) := by decide +kernel
theorem dX6_readProduct_75 : decode cX6_readProduct 75 = .ok (.putfield 23, 3) := by decide +kernel
theorem dX6_readProduct_78 : decode cX6_readProduct 78 = .ok (.aload_n 0, 1) := by decide +kernel
theorem dX6_readProduct_79 : decode cX6_readProduct 79 = .ok (.iload_n 1, 1) := by decide +kernel
theorem dX6_readProduct_80 : decode cX6_readProduct 80 = .ok (.invokevirtual 67, 3) := by decide +kernel
theorem dX6_readProduct_83 : decode cX6_readProduct 83 = .ok (.aload_n 0, 1) := by decide +kernel
theorem dX6_readProduct_84 : decode cX6_readProduct 84 = .ok (.iload_n 2, 1) := by decide +kernel
theorem dX6_readProduct_85 : decode cX6_readProduct 85 = .ok (.bipush 42, 2) := by decide +kernel
theorem dX6_readProduct_87 : decode cX6_readProduct 87 = .ok (.if_icmp .ne 8, 3) := by decide +kernel
theorem dX6_readProduct_90 : decode cX6_readProduct 90 = .ok (.bipush 13, 2) := by decide +kernel
theorem dX6_readProduct_92 : decode cX6_readProduct 92 = .ok (.goto 16, 3) := by decide +kernel
theorem dX6_readProduct_95 : decode cX6_readProduct 95 = .ok (.iload_n 2, 1) := by decide +kernel
theorem dX6_readProduct_96 : decode cX6_readProduct 96 = .ok (.bipush 47, 2) := by decide +kernel
theorem dX6_readProduct_98 : decode cX6_readProduct 98 = .ok (.if_icmp .ne 8, 3) := by decide +kernel
theorem dX6_readProduct_101 : decode cX6_readProduct 101 = .ok (.bipush 14, 2) := by decide +kernel
theorem dX6_readProduct_103 : decode cX6_readProduct 103 = .ok (.goto 5, 3) := by decide +kernel
theorem dX6_readProduct_106 : decode cX6_readProduct 106 = .ok (.bipush 15, 2) := by decide +kernel
theorem dX6_readProduct_108 : decode cX6_readProduct 108 = .ok (.iconst 0, 1) := by decide +kernel
theorem dX6_readProduct_109 : decode cX6_readProduct 109 = .ok (.invokevirtual 51, 3) := by decide +kernel
theorem dX6_readProduct_112 : decode cX6_readProduct 112 = .ok (.goto (-107), 3) := by decide +kernel
theorem dX6_readProduct_115 : decode cX6_readProduct 115 = .ok (.return_, 1) := by decide +kernel
theorem dX6_readOne_0 : decode cX6_readOne 0 = .ok (.aload_n 0, 1) := by decide +kernel
theorem dX6_readOne_1 : decode cX6_readOne 1 = .ok (.invokevirtual 45, 3) := by decide +kernel
theorem dX6_readOne_4 : decode cX6_readOne 4 = .ok (.istore_n 2, 1) := by decide +kernel
theorem dX6_readOne_5 : decode cX6_readOne 5 = .ok (.iload_n 2, 1) := by decide +kernel
theorem dX6_readOne_6 : decode cX6_readOne 6 = .ok (.invokestatic 70, 3) := by decide +kernel
theorem dX6_readOne_9 : decode cX6_readOne 9 = .ok (.istore_n 3, 1) := by decide +kernel
theorem dX6_readOne_10 : decode cX6_readOne 10 = .ok (.iload_n 2, 1) := by decide +kernel
theorem dX6_readOne_11 : decode cX6_readOne 11 = .ok (.bipush 48, 2) := by decide +kernel
theorem dX6_readOne_13 : decode cX6_readOne 13 = .ok (.if_icmp .lt 16, 3) := by decide +kernel
theorem dX6_readOne_16 : decode cX6_readOne 16 = .ok (.iload_n 2, 1) := by decide +kernel
theorem dX6_readOne_17 : decode cX6_readOne 17 = .ok (.bipush 57, 2) := by decide +kernel
theorem dX6_readOne_19 : decode cX6_readOne 19 = .ok (.if_icmp .gt 10, 3) := by decide +kernel
theorem dX6_readOne_22 : decode cX6_readOne 22 = .ok (.aload_n 0, 1) := by decide +kernel
theorem dX6_readOne_23 : decode cX6_readOne 23 = .ok (.invokevirtual 74, 3) := by decide +kernel
theorem dX6_readOne_26 : decode cX6_readOne 26 = .ok (.goto 75, 3) := by decide +kernel
theorem dX6_readOne_29 : decode cX6_readOne 29 = .ok (.iload_n 3, 1) := by decide +kernel
theorem dX6_readOne_30 : decode cX6_readOne 30 = .ok (.ifCond .lt 22, 3) := by decide +kernel
theorem dX6_readOne_33 : decode cX6_readOne 33 = .ok (.aload_n 0, 1) := by decide +kernel
theorem dX6_readOne_34 : decode cX6_readOne 34 = .ok (.dup, 1) := by decide +kernel
theorem dX6_readOne_35 : decode cX6_readOne 35 = .ok (.getfield 23, 3) := by decide +kernel
theorem dX6_readOne_38 : decode cX6_readOne 38 = .ok (.iconst 1, 1) := by decide +kernel
theorem dX6_readOne_39 : decode cX6_readOne 39 = .ok (.iadd, 1) := by decide +kernel
theorem dX6_readOne_40 : decode cX6_readOne 40 = .ok (.putfield 23, 3) := by decide +kernel
theorem dX6_readOne_43 : decode cX6_readOne 43 = .ok (.aload_n 0, 1) := by decide +kernel
theorem dX6_readOne_44 : decode cX6_readOne 44 = .ok (.iconst 1, 1) := by decide +kernel
theorem dX6_readOne_45 : decode cX6_readOne 45 = .ok (.iload_n 3, 1) := by decide +kernel
theorem dX6_readOne_46 : decode cX6_readOne 46 = .ok (.invokevirtual 51, 3) := by decide +kernel
theorem dX6_readOne_49 : decode cX6_readOne 49 = .ok (.goto 52, 3) := by decide +kernel
theorem dX6_readOne_52 : decode cX6_readOne 52 = .ok (.iload_n 2, 1) := by decide +kernel
theorem dX6_readOne_53 : decode cX6_readOne 53 = .ok (.bipush 40, 2) := by decide +kernel
theorem dX6_readOne_55 : decode cX6_readOne 55 = .ok (.if_icmp .eq 15, 3) := by decide +kernel
theorem dX6_readOne_58 : decode cX6_readOne 58 = .ok (.iload_n 2, 1) := by decide +kernel
theorem dX6_readOne_59 : decode cX6_readOne 59 = .ok (.bipush 33, 2) := by decide +kernel
theorem dX6_readOne_61 : decode cX6_readOne 61 = .ok (.if_icmp .eq 9, 3) := by decide +kernel
theorem dX6_readOne_64 : decode cX6_readOne 64 = .ok (.iload_n 2, 1) := by decide +kernel
theorem dX6_readOne_65 : decode cX6_readOne 65 = .ok (.bipush 45, 2) := by decide +kernel
theorem dX6_readOne_67 : decode cX6_readOne 67 = .ok (.if_icmp .ne 30, 3) := by decide +kernel
theorem dX6_readOne_70 : decode cX6_readOne 70 = .ok (.iload_n 1, 1) := by decide +kernel
theorem dX6_readOne_71 : decode cX6_readOne 71 = .ok (.bipush 6, 2) := by decide +kernel
theorem dX6_readOne_73 : decode cX6_readOne 73 = .ok (.if_icmp .ge 24, 3) := by decide +kernel
theorem dX6_readOne_76 : decode cX6_readOne 76 = .ok (.aload_n 0, 1) := by decide +kernel
theorem dX6_readOne_77 : decode cX6_readOne 77 = .ok (.dup, 1) := by decide +kernel
theorem dX6_readOne_78 : decode cX6_readOne 78 = .ok (.getfield 23, 3) := by decide +kernel
theorem dX6_readOne_81 : decode cX6_readOne 81 = .ok (.iconst 1, 1) := by decide +kernel
theorem dX6_readOne_82 : decode cX6_readOne 82 = .ok (.iadd, 1) := by decide +kernel
theorem dX6_readOne_83 : decode cX6_readOne 83 = .ok (.putfield 23, 3) := by decide +kernel
theorem dX6_readOne_86 : decode cX6_readOne 86 = .ok (.aload_n 0, 1) := by decide +kernel
theorem dX6_readOne_87 : decode cX6_readOne 87 = .ok (.iload_n 2, 1) := by decide +kernel
theorem dX6_readOne_88 : decode cX6_readOne 88 = .ok (.iload_n 1, 1) := by decide +kernel
theorem dX6_readOne_89 : decode cX6_readOne 89 = .ok (.iconst 1, 1) := by decide +kernel
theorem dX6_readOne_90 : decode cX6_readOne 90 = .ok (.iadd, 1) := by decide +kernel
theorem dX6_readOne_91 : decode cX6_readOne 91 = .ok (.invokevirtual 77, 3) := by decide +kernel
theorem dX6_readOne_94 : decode cX6_readOne 94 = .ok (.goto 7, 3) := by decide +kernel
theorem dX6_readOne_97 : decode cX6_readOne 97 = .ok (.aload_n 0, 1) := by decide +kernel
theorem dX6_readOne_98 : decode cX6_readOne 98 = .ok (.invokevirtual 32, 3) := by decide +kernel
theorem dX6_readOne_101 : decode cX6_readOne 101 = .ok (.return_, 1) := by decide +kernel
theorem dX6_readNumber_0 : decode cX6_readNumber 0 = .ok (.iconst 0, 1) := by decide +kernel
theorem dX6_readNumber_1 : decode cX6_readNumber 1 = .ok (.istore_n 1, 1) := by decide +kernel
theorem dX6_readNumber_2 : decode cX6_readNumber 2 = .ok (.iconst 0, 1) := by decide +kernel
theorem dX6_readNumber_3 : decode cX6_readNumber 3 = .ok (.istore_n 2, 1) := by decide +kernel
theorem dX6_readNumber_4 : decode cX6_readNumber 4 = .ok (.iload_n 2, 1) := by decide +kernel
theorem dX6_readNumber_5 : decode cX6_readNumber 5 = .ok (.iconst 4, 1) := by decide +kernel
theorem dX6_readNumber_6 : decode cX6_readNumber 6 = .ok (.if_icmp .ge 50, 3) := by decide +kernel
theorem dX6_readNumber_9 : decode cX6_readNumber 9 = .ok (.aload_n 0, 1) := by decide +kernel
theorem dX6_readNumber_10 : decode cX6_readNumber 10 = .ok (.invokevirtual 45, 3) := by decide +kernel
theorem dX6_readNumber_13 : decode cX6_readNumber 13 = .ok (.bipush 48, 2) := by decide +kernel
theorem dX6_readNumber_15 : decode cX6_readNumber 15 = .ok (.if_icmp .lt 41, 3) := by decide +kernel
theorem dX6_readNumber_18 : decode cX6_readNumber 18 = .ok (.aload_n 0, 1) := by decide +kernel
theorem dX6_readNumber_19 : decode cX6_readNumber 19 = .ok (.invokevirtual 45, 3) := by decide +kernel
theorem dX6_readNumber_22 : decode cX6_readNumber 22 = .ok (.bipush 57, 2) := by decide +kernel
theorem dX6_readNumber_24 : decode cX6_readNumber 24 = .ok (.if_icmp .gt 32, 3) := by decide +kernel
theorem dX6_readNumber_27 : decode cX6_readNumber 27 = .ok (.iload_n 1, 1) := by decide +kernel
theorem dX6_readNumber_28 : decode cX6_readNumber 28 = .ok (.bipush 10, 2) := by decide +kernel
theorem dX6_readNumber_30 : decode cX6_readNumber 30 = .ok (.imul, 1) := by decide +kernel
theorem dX6_readNumber_31 : decode cX6_readNumber 31 = .ok (.aload_n 0, 1) := by decide +kernel
theorem dX6_readNumber_32 : decode cX6_readNumber 32 = .ok (.invokevirtual 45, 3) := by decide +kernel
theorem dX6_readNumber_35 : decode cX6_readNumber 35 = .ok (.iadd, 1) := by decide +kernel
theorem dX6_readNumber_36 : decode cX6_readNumber 36 = .ok (.bipush 48, 2) := by decide +kernel
theorem dX6_readNumber_38 : decode cX6_readNumber 38 = .ok (.isub, 1) := by decide +kernel
theorem dX6_readNumber_39 : decode cX6_readNumber 39 = .ok (.istore_n 1, 1) := by decide +kernel
theorem dX6_readNumber_40 : decode cX6_readNumber 40 = .ok (.aload_n 0, 1) := by decide +kernel
theorem dX6_readNumber_41 : decode cX6_readNumber 41 = .ok (.dup, 1) := by decide +kernel
theorem dX6_readNumber_42 : decode cX6_readNumber 42 = .ok (.getfield 23, 3) := by decide +kernel
theorem dX6_readNumber_45 : decode cX6_readNumber 45 = .ok (.iconst 1, 1) := by decide +kernel
theorem dX6_readNumber_46 : decode cX6_readNumber 46 = .ok (.iadd, 1) := by decide +kernel
theorem dX6_readNumber_47 : decode cX6_readNumber 47 = .ok (.putfield 23, 3) := by decide +kernel
theorem dX6_readNumber_50 : decode cX6_readNumber 50 = .ok (.iinc 2 1, 3) := by decide +kernel
theorem dX6_readNumber_53 : decode cX6_readNumber 53 = .ok (.goto (-49), 3) := by decide +kernel
theorem dX6_readNumber_56 : decode cX6_readNumber 56 = .ok (.aload_n 0, 1) := by decide +kernel
theorem dX6_readNumber_57 : decode cX6_readNumber 57 = .ok (.iconst 0, 1) := by decide +kernel
theorem dX6_readNumber_58 : decode cX6_readNumber 58 = .ok (.iload_n 1, 1) := by decide +kernel
theorem dX6_readNumber_59 : decode cX6_readNumber 59 = .ok (.invokevirtual 51, 3) := by decide +kernel
theorem dX6_readNumber_62 : decode cX6_readNumber 62 = .ok (.return_, 1) := by decide +kernel
theorem dX6_readOpen_0 : decode cX6_readOpen 0 = .ok (.iload_n 1, 1) := by decide +kernel
theorem dX6_readOpen_1 : decode cX6_readOpen 1 = .ok (.bipush 40, 2) := by decide +kernel
theorem dX6_readOpen_3 : decode cX6_readOpen 3 = .ok (.if_icmp .eq 25, 3) := by decide +kernel
theorem dX6_readOpen_6 : decode cX6_readOpen 6 = .ok (.aload_n 0, 1) := by decide +kernel
theorem dX6_readOpen_7 : decode cX6_readOpen 7 = .ok (.iload_n 2, 1) := by decide +kernel
theorem dX6_readOpen_8 : decode cX6_readOpen 8 = .ok (.invokevirtual 67, 3) := by decide +kernel
theorem dX6_readOpen_11 : decode cX6_readOpen 11 = .ok (.aload_n 0, 1) := by decide +kernel
theorem dX6_readOpen_12 : decode cX6_readOpen 12 = .ok (.iload_n 1, 1) := by decide +kernel
theorem dX6_readOpen_13 : decode cX6_readOpen 13 = .ok (.bipush 33, 2) := by decide +kernel
theorem dX6_readOpen_15 : decode cX6_readOpen 15 = .ok (.if_icmp .ne 7, 3) := by decide +kernel
theorem dX6_readOpen_18 : decode cX6_readOpen 18 = .ok (.iconst 2, 1) := by decide +kernel
theorem dX6_readOpen_19 : decode cX6_readOpen 19 = .ok (.goto 4, 3) := by decide +kernel
theorem dX6_readOpen_22 : decode cX6_readOpen 22 = .ok (.iconst 3, 1) := by decide +kernel
theorem dX6_readOpen_23 : decode cX6_readOpen 23 = .ok (.iconst 0, 1) := by decide +kernel
theorem dX6_readOpen_24 : decode cX6_readOpen 24 = .ok (.invokevirtual 51, 3) := by decide +kernel
theorem dX6_readOpen_27 : decode cX6_readOpen 27 = .ok (.return_, 1) := by decide +kernel
theorem dX6_readOpen_28 : decode cX6_readOpen 28 = .ok (.aload_n 0, 1) := by decide +kernel
theorem dX6_readOpen_29 : decode cX6_readOpen 29 = .ok (.iload_n 2, 1) := by decide +kernel
theorem dX6_readOpen_30 : decode cX6_readOpen 30 = .ok (.invokevirtual 41, 3) := by decide +kernel
theorem dX6_readOpen_33 : decode cX6_readOpen 33 = .ok (.aload_n 0, 1) := by decide +kernel
theorem dX6_readOpen_34 : decode cX6_readOpen 34 = .ok (.invokevirtual 45, 3) := by decide +kernel
theorem dX6_readOpen_37 : decode cX6_readOpen 37 = .ok (.bipush 41, 2) := by decide +kernel
theorem dX6_readOpen_39 : decode cX6_readOpen 39 = .ok (.if_icmp .ne 16, 3) := by decide +kernel
theorem dX6_readOpen_42 : decode cX6_readOpen 42 = .ok (.aload_n 0, 1) := by decide +kernel
theorem dX6_readOpen_43 : decode cX6_readOpen 43 = .ok (.dup, 1) := by decide +kernel
theorem dX6_readOpen_44 : decode cX6_readOpen 44 = .ok (.getfield 23, 3) := by decide +kernel
theorem dX6_readOpen_47 : decode cX6_readOpen 47 = .ok (.iconst 1, 1) := by decide +kernel
theorem dX6_readOpen_48 : decode cX6_readOpen 48 = .ok (.iadd, 1) := by decide +kernel
theorem dX6_readOpen_49 : decode cX6_readOpen 49 = .ok (.putfield 23, 3) := by decide +kernel
theorem dX6_readOpen_52 : decode cX6_readOpen 52 = .ok (.goto 7, 3) := by decide +kernel
theorem dX6_readOpen_55 : decode cX6_readOpen 55 = .ok (.aload_n 0, 1) := by decide +kernel
theorem dX6_readOpen_56 : decode cX6_readOpen 56 = .ok (.invokevirtual 32, 3) := by decide +kernel
theorem dX6_readOpen_59 : decode cX6_readOpen 59 = .ok (.return_, 1) := by decide +kernel
theorem dX6_nameOf_0 : decode cX6_nameOf 0 = .ok (.iload_n 0, 1) := by decide +kernel
theorem dX6_nameOf_1 : decode cX6_nameOf 1 = .ok (.tableswitch 114 99 119 #[101, 114, 114, 114, 114, 114, 111, 114, 109, 114, 114, 105, 114, 103, 114, 114, 114, 107, 114, 114, 99], 99) := by decide +kernel
theorem dX6_nameOf_100 : decode cX6_nameOf 100 = .ok (.iconst 0, 1) := by decide +kernel
theorem dX6_nameOf_101 : decode cX6_nameOf 101 = .ok (.ireturn, 1) := by decide +kernel
theorem dX6_nameOf_102 : decode cX6_nameOf 102 = .ok (.iconst 1, 1) := by decide +kernel
theorem dX6_nameOf_103 : decode cX6_nameOf 103 = .ok (.ireturn, 1) := by decide +kernel
theorem dX6_nameOf_104 : decode cX6_nameOf 104 = .ok (.iconst 2, 1) := by decide +kernel
theorem dX6_nameOf_105 : decode cX6_nameOf 105 = .ok (.ireturn, 1) := by decide +kernel
theorem dX6_nameOf_106 : decode cX6_nameOf 106 = .ok (.iconst 3, 1) := by decide +kernel
theorem dX6_nameOf_107 : decode cX6_nameOf 107 = .ok (.ireturn, 1) := by decide +kernel
theorem dX6_nameOf_108 : decode cX6_nameOf 108 = .ok (.iconst 4, 1) := by decide +kernel
theorem dX6_nameOf_109 : decode cX6_nameOf 109 = .ok (.ireturn, 1) := by decide +kernel
theorem dX6_nameOf_110 : decode cX6_nameOf 110 = .ok (.iconst 5, 1) := by decide +kernel
theorem dX6_nameOf_111 : decode cX6_nameOf 111 = .ok (.ireturn, 1) := by decide +kernel
theorem dX6_nameOf_112 : decode cX6_nameOf 112 = .ok (.bipush 6, 2) := by decide +kernel
theorem dX6_nameOf_114 : decode cX6_nameOf 114 = .ok (.ireturn, 1) := by decide +kernel
theorem dX6_nameOf_115 : decode cX6_nameOf 115 = .ok (.iconst (-1), 1) := by decide +kernel
theorem dX6_nameOf_116 : decode cX6_nameOf 116 = .ok (.ireturn, 1) := by decide +kernel
