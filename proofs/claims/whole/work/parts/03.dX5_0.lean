theorem dX5_init_0 : decode cX5_init 0 = .ok (.aload_n 0, 1) := by decide +kernel
theorem dX5_init_1 : decode cX5_init 1 = .ok (.invokespecial 3, 3) := by decide +kernel
theorem dX5_init_4 : decode cX5_init 4 = .ok (.aload_n 0, 1) := by decide +kernel
theorem dX5_init_5 : decode cX5_init 5 = .ok (.bipush 12, 2) := by decide +kernel
theorem dX5_init_7 : decode cX5_init 7 = .ok (.newarray .int, 2) := by decide +kernel
theorem dX5_init_9 : decode cX5_init 9 = .ok (.putfield 9, 3) := by decide +kernel
theorem dX5_init_12 : decode cX5_init 12 = .ok (.return_, 1) := by decide +kernel
theorem dX5_has_0 : decode cX5_has 0 = .ok (.iload_n 1, 1) := by decide +kernel
theorem dX5_has_1 : decode cX5_has 1 = .ok (.ifCond .lt 21, 3) := by decide +kernel
theorem dX5_has_4 : decode cX5_has 4 = .ok (.iload_n 1, 1) := by decide +kernel
theorem dX5_has_5 : decode cX5_has 5 = .ok (.aload_n 0, 1) := by decide +kernel
theorem dX5_has_6 : decode cX5_has 6 = .ok (.getfield 15, 3) := by decide +kernel
theorem dX5_has_9 : decode cX5_has 9 = .ok (.if_icmp .ge 13, 3) := by decide +kernel
theorem dX5_has_12 : decode cX5_has 12 = .ok (.iload_n 1, 1) := by decide +kernel
theorem dX5_has_13 : decode cX5_has 13 = .ok (.bipush 12, 2) := by decide +kernel
theorem dX5_has_15 : decode cX5_has 15 = .ok (.if_icmp .ge 7, 3) := by decide +kernel
theorem dX5_has_18 : decode cX5_has 18 = .ok (.iconst 1, 1) := by decide +kernel
theorem dX5_has_19 : decode cX5_has 19 = .ok (.goto 4, 3) := by decide +kernel
theorem dX5_has_22 : decode cX5_has 22 = .ok (.iconst 0, 1) := by decide +kernel
theorem dX5_has_23 : decode cX5_has 23 = .ok (.ireturn, 1) := by decide +kernel
theorem dX5_allWorths_0 : decode cX5_allWorths 0 = .ok (.iconst 0, 1) := by decide +kernel
theorem dX5_allWorths_1 : decode cX5_allWorths 1 = .ok (.istore_n 1, 1) := by decide +kernel
theorem dX5_allWorths_2 : decode cX5_allWorths 2 = .ok (.iconst 0, 1) := by decide +kernel
theorem dX5_allWorths_3 : decode cX5_allWorths 3 = .ok (.istore_n 2, 1) := by decide +kernel
theorem dX5_allWorths_4 : decode cX5_allWorths 4 = .ok (.iload_n 2, 1) := by decide +kernel
theorem dX5_allWorths_5 : decode cX5_allWorths 5 = .ok (.aload_n 0, 1) := by decide +kernel
theorem dX5_allWorths_6 : decode cX5_allWorths 6 = .ok (.getfield 15, 3) := by decide +kernel
theorem dX5_allWorths_9 : decode cX5_allWorths 9 = .ok (.if_icmp .ge 18, 3) := by decide +kernel
theorem dX5_allWorths_12 : decode cX5_allWorths 12 = .ok (.iload_n 1, 1) := by decide +kernel
theorem dX5_allWorths_13 : decode cX5_allWorths 13 = .ok (.aload_n 0, 1) := by decide +kernel
theorem dX5_allWorths_14 : decode cX5_allWorths 14 = .ok (.getfield 9, 3) := by decide +kernel
theorem dX5_allWorths_17 : decode cX5_allWorths 17 = .ok (.iload_n 2, 1) := by decide +kernel
theorem dX5_allWorths_18 : decode cX5_allWorths 18 = .ok (.iaload, 1) := by decide +kernel
theorem dX5_allWorths_19 : decode cX5_allWorths 19 = .ok (.iadd, 1) := by decide +kernel
theorem dX5_allWorths_20 : decode cX5_allWorths 20 = .ok (.istore_n 1, 1) := by decide +kernel
theorem dX5_allWorths_21 : decode cX5_allWorths 21 = .ok (.iinc 2 1, 3) := by decide +kernel
theorem dX5_allWorths_24 : decode cX5_allWorths 24 = .ok (.goto (-20), 3) := by decide +kernel
theorem dX5_allWorths_27 : decode cX5_allWorths 27 = .ok (.iload_n 1, 1) := by decide +kernel
theorem dX5_allWorths_28 : decode cX5_allWorths 28 = .ok (.ireturn, 1) := by decide +kernel
