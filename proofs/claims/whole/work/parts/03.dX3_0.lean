theorem dX3_init_0 : decode cX3_init 0 = .ok (.aload_n 0, 1) := by decide +kernel
theorem dX3_init_1 : decode cX3_init 1 = .ok (.invokespecial 3, 3) := by decide +kernel
theorem dX3_init_4 : decode cX3_init 4 = .ok (.aload_n 0, 1) := by decide +kernel
theorem dX3_init_5 : decode cX3_init 5 = .ok (.sipush 2401, 3) := by decide +kernel
theorem dX3_init_8 : decode cX3_init 8 = .ok (.newarray .long, 2) := by decide +kernel
theorem dX3_init_10 : decode cX3_init 10 = .ok (.putfield 11, 3) := by decide +kernel
theorem dX3_init_13 : decode cX3_init 13 = .ok (.aload_n 0, 1) := by decide +kernel
theorem dX3_init_14 : decode cX3_init 14 = .ok (.iconst 4, 1) := by decide +kernel
theorem dX3_init_15 : decode cX3_init 15 = .ok (.newarray .int, 2) := by decide +kernel
theorem dX3_init_17 : decode cX3_init 17 = .ok (.putfield 15, 3) := by decide +kernel
theorem dX3_init_20 : decode cX3_init 20 = .ok (.aload_n 0, 1) := by decide +kernel
theorem dX3_init_21 : decode cX3_init 21 = .ok (.aload_n 1, 1) := by decide +kernel
theorem dX3_init_22 : decode cX3_init 22 = .ok (.putfield 19, 3) := by decide +kernel
theorem dX3_init_25 : decode cX3_init 25 = .ok (.aload_n 0, 1) := by decide +kernel
theorem dX3_init_26 : decode cX3_init 26 = .ok (.aload_n 2, 1) := by decide +kernel
theorem dX3_init_27 : decode cX3_init 27 = .ok (.putfield 23, 3) := by decide +kernel
theorem dX3_init_30 : decode cX3_init 30 = .ok (.return_, 1) := by decide +kernel
theorem dX3_foretell_0 : decode cX3_foretell 0 = .ok (.aload_n 0, 1) := by decide +kernel
theorem dX3_foretell_1 : decode cX3_foretell 1 = .ok (.getfield 23, 3) := by decide +kernel
theorem dX3_foretell_4 : decode cX3_foretell 4 = .ok (.aload_n 1, 1) := by decide +kernel
theorem dX3_foretell_5 : decode cX3_foretell 5 = .ok (.invokevirtual 27, 3) := by decide +kernel
theorem dX3_foretell_8 : decode cX3_foretell 8 = .ok (.aload_n 0, 1) := by decide +kernel
theorem dX3_foretell_9 : decode cX3_foretell 9 = .ok (.invokevirtual 33, 3) := by decide +kernel
theorem dX3_foretell_12 : decode cX3_foretell 12 = .ok (.iconst 0, 1) := by decide +kernel
theorem dX3_foretell_13 : decode cX3_foretell 13 = .ok (.istore 5, 2) := by decide +kernel
theorem dX3_foretell_15 : decode cX3_foretell 15 = .ok (.iload 5, 2) := by decide +kernel
theorem dX3_foretell_17 : decode cX3_foretell 17 = .ok (.sipush 2401, 3) := by decide +kernel
theorem dX3_foretell_20 : decode cX3_foretell 20 = .ok (.if_icmp .ge 76, 3) := by decide +kernel
theorem dX3_foretell_23 : decode cX3_foretell 23 = .ok (.aload_n 0, 1) := by decide +kernel
theorem dX3_foretell_24 : decode cX3_foretell 24 = .ok (.aload_n 1, 1) := by decide +kernel
theorem dX3_foretell_25 : decode cX3_foretell 25 = .ok (.iload_n 3, 1) := by decide +kernel
theorem dX3_foretell_26 : decode cX3_foretell 26 = .ok (.invokevirtual 36, 3) := by decide +kernel
theorem dX3_foretell_29 : decode cX3_foretell 29 = .ok (.aload_n 0, 1) := by decide +kernel
theorem dX3_foretell_30 : decode cX3_foretell 30 = .ok (.getfield 11, 3) := by decide +kernel
theorem dX3_foretell_33 : decode cX3_foretell 33 = .ok (.aload_n 0, 1) := by decide +kernel
theorem dX3_foretell_34 : decode cX3_foretell 34 = .ok (.getfield 40, 3) := by decide +kernel
theorem dX3_foretell_37 : decode cX3_foretell 37 = .ok (.iload 4, 2) := by decide +kernel
theorem dX3_foretell_39 : decode cX3_foretell 39 = .ok (.iconst 1, 1) := by decide +kernel
theorem dX3_foretell_40 : decode cX3_foretell 40 = .ok (.if_icmp .ne 20, 3) := by decide +kernel
theorem dX3_foretell_43 : decode cX3_foretell 43 = .ok (.aload_n 0, 1) := by decide +kernel
theorem dX3_foretell_44 : decode cX3_foretell 44 = .ok (.getfield 23, 3) := by decide +kernel
theorem dX3_foretell_47 : decode cX3_foretell 47 = .ok (.getfield 44, 3) := by decide +kernel
theorem dX3_foretell_50 : decode cX3_foretell 50 = .ok (.iload_n 2, 1) := by decide +kernel
theorem dX3_foretell_51 : decode cX3_foretell 51 = .ok (.iaload, 1) := by decide +kernel
theorem dX3_foretell_52 : decode cX3_foretell 52 = .ok (.i2l, 1) := by decide +kernel
theorem dX3_foretell_53 : decode cX3_foretell 53 = .ok (.ldc2_w 47, 3) := by decide +kernel
theorem dX3_foretell_56 : decode cX3_foretell 56 = .ok (.lmul, 1) := by decide +kernel
theorem dX3_foretell_57 : decode cX3_foretell 57 = .ok (.goto 21, 3) := by decide +kernel
theorem dX3_foretell_60 : decode cX3_foretell 60 = .ok (.aload_n 0, 1) := by decide +kernel
theorem dX3_foretell_61 : decode cX3_foretell 61 = .ok (.getfield 23, 3) := by decide +kernel
theorem dX3_foretell_64 : decode cX3_foretell 64 = .ok (.invokevirtual 49, 3) := by decide +kernel
theorem dX3_foretell_67 : decode cX3_foretell 67 = .ok (.iload_n 2, 1) := by decide +kernel
theorem dX3_foretell_68 : decode cX3_foretell 68 = .ok (.if_icmp .ne 9, 3) := by decide +kernel
theorem dX3_foretell_71 : decode cX3_foretell 71 = .ok (.ldc2_w 53, 3) := by decide +kernel
theorem dX3_foretell_74 : decode cX3_foretell 74 = .ok (.goto 4, 3) := by decide +kernel
theorem dX3_foretell_77 : decode cX3_foretell 77 = .ok (.lconst 0, 1) := by decide +kernel
theorem dX3_foretell_78 : decode cX3_foretell 78 = .ok (.lastore, 1) := by decide +kernel
theorem dX3_foretell_79 : decode cX3_foretell 79 = .ok (.aload_n 0, 1) := by decide +kernel
theorem dX3_foretell_80 : decode cX3_foretell 80 = .ok (.iload_n 3, 1) := by decide +kernel
theorem dX3_foretell_81 : decode cX3_foretell 81 = .ok (.invokevirtual 55, 3) := by decide +kernel
theorem dX3_foretell_84 : decode cX3_foretell 84 = .ok (.ifCond .ne 6, 3) := by decide +kernel
theorem dX3_foretell_87 : decode cX3_foretell 87 = .ok (.goto 9, 3) := by decide +kernel
theorem dX3_foretell_90 : decode cX3_foretell 90 = .ok (.iinc 5 1, 3) := by decide +kernel
theorem dX3_foretell_93 : decode cX3_foretell 93 = .ok (.goto (-78), 3) := by decide +kernel
theorem dX3_foretell_96 : decode cX3_foretell 96 = .ok (.iload_n 3, 1) := by decide +kernel
theorem dX3_foretell_97 : decode cX3_foretell 97 = .ok (.iconst 1, 1) := by decide +kernel
theorem dX3_foretell_98 : decode cX3_foretell 98 = .ok (.isub, 1) := by decide +kernel
theorem dX3_foretell_99 : decode cX3_foretell 99 = .ok (.istore 5, 2) := by decide +kernel
theorem dX3_foretell_101 : decode cX3_foretell 101 = .ok (.iload 5, 2) := by decide +kernel
theorem dX3_foretell_103 : decode cX3_foretell 103 = .ok (.ifCond .lt 16, 3) := by decide +kernel
theorem dX3_foretell_106 : decode cX3_foretell 106 = .ok (.aload_n 0, 1) := by decide +kernel
theorem dX3_foretell_107 : decode cX3_foretell 107 = .ok (.aload_n 1, 1) := by decide +kernel
theorem dX3_foretell_108 : decode cX3_foretell 108 = .ok (.iload 5, 2) := by decide +kernel
theorem dX3_foretell_110 : decode cX3_foretell 110 = .ok (.invokevirtual 59, 3) := by decide +kernel
theorem dX3_foretell_113 : decode cX3_foretell 113 = .ok (.iinc 5 (-1), 3) := by decide +kernel
theorem dX3_foretell_116 : decode cX3_foretell 116 = .ok (.goto (-15), 3) := by decide +kernel
theorem dX3_foretell_119 : decode cX3_foretell 119 = .ok (.aload_n 0, 1) := by decide +kernel
theorem dX3_foretell_120 : decode cX3_foretell 120 = .ok (.getfield 11, 3) := by decide +kernel
theorem dX3_foretell_123 : decode cX3_foretell 123 = .ok (.iconst 0, 1) := by decide +kernel
theorem dX3_foretell_124 : decode cX3_foretell 124 = .ok (.laload, 1) := by decide +kernel
theorem dX3_foretell_125 : decode cX3_foretell 125 = .ok (.l2i, 1) := by decide +kernel
theorem dX3_foretell_126 : decode cX3_foretell 126 = .ok (.ireturn, 1) := by decide +kernel
theorem dX3_goBack_0 : decode cX3_goBack 0 = .ok (.aload_n 0, 1) := by decide +kernel
theorem dX3_goBack_1 : decode cX3_goBack 1 = .ok (.invokevirtual 33, 3) := by decide +kernel
theorem dX3_goBack_4 : decode cX3_goBack 4 = .ok (.iconst 0, 1) := by decide +kernel
theorem dX3_goBack_5 : decode cX3_goBack 5 = .ok (.istore_n 3, 1) := by decide +kernel
theorem dX3_goBack_6 : decode cX3_goBack 6 = .ok (.iload_n 3, 1) := by decide +kernel
theorem dX3_goBack_7 : decode cX3_goBack 7 = .ok (.sipush 2401, 3) := by decide +kernel
theorem dX3_goBack_10 : decode cX3_goBack 10 = .ok (.if_icmp .ge 57, 3) := by decide +kernel
theorem dX3_goBack_13 : decode cX3_goBack 13 = .ok (.aload_n 0, 1) := by decide +kernel
theorem dX3_goBack_14 : decode cX3_goBack 14 = .ok (.aload_n 1, 1) := by decide +kernel
theorem dX3_goBack_15 : decode cX3_goBack 15 = .ok (.iload_n 2, 1) := by decide +kernel
theorem dX3_goBack_16 : decode cX3_goBack 16 = .ok (.invokevirtual 36, 3) := by decide +kernel
theorem dX3_goBack_19 : decode cX3_goBack 19 = .ok (.aload_n 0, 1) := by decide +kernel
theorem dX3_goBack_20 : decode cX3_goBack 20 = .ok (.getfield 23, 3) := by decide +kernel
theorem dX3_goBack_23 : decode cX3_goBack 23 = .ok (.invokevirtual 62, 3) := by decide +kernel
theorem dX3_goBack_26 : decode cX3_goBack 26 = .ok (.istore 4, 2) := by decide +kernel
theorem dX3_goBack_28 : decode cX3_goBack 28 = .ok (.iload 4, 2) := by decide +kernel
theorem dX3_goBack_30 : decode cX3_goBack 30 = .ok (.ifCond .le 20, 3) := by decide +kernel
theorem dX3_goBack_33 : decode cX3_goBack 33 = .ok (.aload_n 0, 1) := by decide +kernel
theorem dX3_goBack_34 : decode cX3_goBack 34 = .ok (.getfield 11, 3) := by decide +kernel
theorem dX3_goBack_37 : decode cX3_goBack 37 = .ok (.aload_n 0, 1) := by decide +kernel
theorem dX3_goBack_38 : decode cX3_goBack 38 = .ok (.getfield 40, 3) := by decide +kernel
theorem dX3_goBack_41 : decode cX3_goBack 41 = .ok (.aload_n 0, 1) := by decide +kernel
theorem dX3_goBack_42 : decode cX3_goBack 42 = .ok (.invokevirtual 65, 3) := by decide +kernel
theorem dX3_goBack_45 : decode cX3_goBack 45 = .ok (.iload 4, 2) := by decide +kernel
theorem dX3_goBack_47 : decode cX3_goBack 47 = .ok (.i2l, 1) := by decide +kernel
theorem dX3_goBack_48 : decode cX3_goBack 48 = .ok (.ldiv, 1) := by decide +kernel
theorem dX3_goBack_49 : decode cX3_goBack 49 = .ok (.lastore, 1) := by decide +kernel
theorem dX3_goBack_50 : decode cX3_goBack 50 = .ok (.aload_n 0, 1) := by decide +kernel
theorem dX3_goBack_51 : decode cX3_goBack 51 = .ok (.iload_n 2, 1) := by decide +kernel
theorem dX3_goBack_52 : decode cX3_goBack 52 = .ok (.invokevirtual 55, 3) := by decide +kernel
theorem dX3_goBack_55 : decode cX3_goBack 55 = .ok (.ifCond .ne 6, 3) := by decide +kernel
theorem dX3_goBack_58 : decode cX3_goBack 58 = .ok (.goto 9, 3) := by decide +kernel
theorem dX3_goBack_61 : decode cX3_goBack 61 = .ok (.iinc 3 1, 3) := by decide +kernel
theorem dX3_goBack_64 : decode cX3_goBack 64 = .ok (.goto (-58), 3) := by decide +kernel
theorem dX3_goBack_67 : decode cX3_goBack 67 = .ok (.return_, 1) := by decide +kernel
theorem dX3_mixed_0 : decode cX3_mixed 0 = .ok (.aload_n 0, 1) := by decide +kernel
theorem dX3_mixed_1 : decode cX3_mixed 1 = .ok (.getfield 23, 3) := by decide +kernel
theorem dX3_mixed_4 : decode cX3_mixed 4 = .ok (.getfield 69, 3) := by decide +kernel
theorem dX3_mixed_7 : decode cX3_mixed 7 = .ok (.i2l, 1) := by decide +kernel
theorem dX3_mixed_8 : decode cX3_mixed 8 = .ok (.aload_n 0, 1) := by decide +kernel
theorem dX3_mixed_9 : decode cX3_mixed 9 = .ok (.getfield 11, 3) := by decide +kernel
theorem dX3_mixed_12 : decode cX3_mixed 12 = .ok (.aload_n 0, 1) := by decide +kernel
theorem dX3_mixed_13 : decode cX3_mixed 13 = .ok (.getfield 40, 3) := by decide +kernel
theorem dX3_mixed_16 : decode cX3_mixed 16 = .ok (.laload, 1) := by decide +kernel
theorem dX3_mixed_17 : decode cX3_mixed 17 = .ok (.lmul, 1) := by decide +kernel
theorem dX3_mixed_18 : decode cX3_mixed 18 = .ok (.lstore_n 1, 1) := by decide +kernel
theorem dX3_mixed_19 : decode cX3_mixed 19 = .ok (.iconst 0, 1) := by decide +kernel
theorem dX3_mixed_20 : decode cX3_mixed 20 = .ok (.istore_n 3, 1) := by decide +kernel
theorem dX3_mixed_21 : decode cX3_mixed 21 = .ok (.iload_n 3, 1) := by decide +kernel
theorem dX3_mixed_22 : decode cX3_mixed 22 = .ok (.aload_n 0, 1) := by decide +kernel
theorem dX3_mixed_23 : decode cX3_mixed 23 = .ok (.getfield 19, 3) := by decide +kernel
theorem dX3_mixed_26 : decode cX3_mixed 26 = .ok (.getfield 72, 3) := by decide +kernel
theorem dX3_mixed_29 : decode cX3_mixed 29 = .ok (.if_icmp .ge 67, 3) := by decide +kernel
theorem dX3_mixed_32 : decode cX3_mixed 32 = .ok (.iload_n 3, 1) := by decide +kernel
theorem dX3_mixed_33 : decode cX3_mixed 33 = .ok (.iconst 4, 1) := by decide +kernel
theorem dX3_mixed_34 : decode cX3_mixed 34 = .ok (.if_icmp .ge 62, 3) := by decide +kernel
theorem dX3_mixed_37 : decode cX3_mixed 37 = .ok (.aload_n 0, 1) := by decide +kernel
theorem dX3_mixed_38 : decode cX3_mixed 38 = .ok (.getfield 40, 3) := by decide +kernel
theorem dX3_mixed_41 : decode cX3_mixed 41 = .ok (.getstatic 77, 3) := by decide +kernel
theorem dX3_mixed_44 : decode cX3_mixed 44 = .ok (.iload_n 3, 1) := by decide +kernel
theorem dX3_mixed_45 : decode cX3_mixed 45 = .ok (.iaload, 1) := by decide +kernel
theorem dX3_mixed_46 : decode cX3_mixed 46 = .ok (.iadd, 1) := by decide +kernel
theorem dX3_mixed_47 : decode cX3_mixed 47 = .ok (.istore 4, 2) := by decide +kernel
theorem dX3_mixed_49 : decode cX3_mixed 49 = .ok (.aload_n 0, 1) := by decide +kernel
theorem dX3_mixed_50 : decode cX3_mixed 50 = .ok (.getfield 23, 3) := by decide +kernel
theorem dX3_mixed_53 : decode cX3_mixed 53 = .ok (.getfield 80, 3) := by decide +kernel
theorem dX3_mixed_56 : decode cX3_mixed 56 = .ok (.iload_n 3, 1) := by decide +kernel
theorem dX3_mixed_57 : decode cX3_mixed 57 = .ok (.iaload, 1) := by decide +kernel
theorem dX3_mixed_58 : decode cX3_mixed 58 = .ok (.ifCond .le 32, 3) := by decide +kernel
theorem dX3_mixed_61 : decode cX3_mixed 61 = .ok (.iload 4, 2) := by decide +kernel
theorem dX3_mixed_63 : decode cX3_mixed 63 = .ok (.sipush 2401, 3) := by decide +kernel
theorem dX3_mixed_66 : decode cX3_mixed 66 = .ok (.if_icmp .ge 24, 3) := by decide +kernel
theorem dX3_mixed_69 : decode cX3_mixed 69 = .ok (.lload_n 1, 1) := by decide +kernel
theorem dX3_mixed_70 : decode cX3_mixed 70 = .ok (.aload_n 0, 1) := by decide +kernel
theorem dX3_mixed_71 : decode cX3_mixed 71 = .ok (.getfield 23, 3) := by decide +kernel
theorem dX3_mixed_74 : decode cX3_mixed 74 = .ok (.getfield 80, 3) := by decide +kernel
theorem dX3_mixed_77 : decode cX3_mixed 77 = .ok (.iload_n 3, 1) := by decide +kernel
theorem dX3_mixed_78 : decode cX3_mixed 78 = .ok (.iaload, 1) := by decide +kernel
theorem dX3_mixed_79 : decode cX3_mixed 79 = .ok (.i2l, 1) := by decide +kernel
theorem dX3_mixed_80 : decode cX3_mixed 80 = .ok (.aload_n 0, 1) := by decide +kernel
theorem dX3_mixed_81 : decode cX3_mixed 81 = .ok (.getfield 11, 3) := by decide +kernel
theorem dX3_mixed_84 : decode cX3_mixed 84 = .ok (.iload 4, 2) := by decide +kernel
theorem dX3_mixed_86 : decode cX3_mixed 86 = .ok (.laload, 1) := by decide +kernel
theorem dX3_mixed_87 : decode cX3_mixed 87 = .ok (.lmul, 1) := by decide +kernel
theorem dX3_mixed_88 : decode cX3_mixed 88 = .ok (.ladd, 1) := by decide +kernel
theorem dX3_mixed_89 : decode cX3_mixed 89 = .ok (.lstore_n 1, 1) := by decide +kernel
theorem dX3_mixed_90 : decode cX3_mixed 90 = .ok (.iinc 3 1, 3) := by decide +kernel
theorem dX3_mixed_93 : decode cX3_mixed 93 = .ok (.goto (-72), 3) := by decide +kernel
theorem dX3_mixed_96 : decode cX3_mixed 96 = .ok (.lload_n 1, 1) := by decide +kernel
theorem dX3_mixed_97 : decode cX3_mixed 97 = .ok (.lreturn, 1) := by decide +kernel
theorem dX3_start_0 : decode cX3_start 0 = .ok (.aload_n 0, 1) := by decide +kernel
theorem dX3_start_1 : decode cX3_start 1 = .ok (.getfield 15, 3) := by decide +kernel
theorem dX3_start_4 : decode cX3_start 4 = .ok (.iconst 0, 1) := by decide +kernel
theorem dX3_start_5 : decode cX3_start 5 = .ok (.invokestatic 83, 3) := by decide +kernel
theorem dX3_start_8 : decode cX3_start 8 = .ok (.aload_n 0, 1) := by decide +kernel
theorem dX3_start_9 : decode cX3_start 9 = .ok (.iconst 0, 1) := by decide +kernel
theorem dX3_start_10 : decode cX3_start 10 = .ok (.putfield 89, 3) := by decide +kernel
theorem dX3_start_13 : decode cX3_start 13 = .ok (.aload_n 0, 1) := by decide +kernel
theorem dX3_start_14 : decode cX3_start 14 = .ok (.iconst 0, 1) := by decide +kernel
theorem dX3_start_15 : decode cX3_start 15 = .ok (.putfield 40, 3) := by decide +kernel
theorem dX3_start_18 : decode cX3_start 18 = .ok (.return_, 1) := by decide +kernel
theorem dX3_turn_0 : decode cX3_turn 0 = .ok (.iconst 0, 1) := by decide +kernel
theorem dX3_turn_1 : decode cX3_turn 1 = .ok (.istore_n 2, 1) := by decide +kernel
theorem dX3_turn_2 : decode cX3_turn 2 = .ok (.iload_n 2, 1) := by decide +kernel
theorem dX3_turn_3 : decode cX3_turn 3 = .ok (.aload_n 0, 1) := by decide +kernel
theorem dX3_turn_4 : decode cX3_turn 4 = .ok (.getfield 19, 3) := by decide +kernel
theorem dX3_turn_7 : decode cX3_turn 7 = .ok (.getfield 72, 3) := by decide +kernel
theorem dX3_turn_10 : decode cX3_turn 10 = .ok (.if_icmp .ge 101, 3) := by decide +kernel
theorem dX3_turn_13 : decode cX3_turn 13 = .ok (.iload_n 2, 1) := by decide +kernel
theorem dX3_turn_14 : decode cX3_turn 14 = .ok (.iconst 4, 1) := by decide +kernel
theorem dX3_turn_15 : decode cX3_turn 15 = .ok (.if_icmp .ge 96, 3) := by decide +kernel
theorem dX3_turn_18 : decode cX3_turn 18 = .ok (.aload_n 0, 1) := by decide +kernel
theorem dX3_turn_19 : decode cX3_turn 19 = .ok (.getfield 89, 3) := by decide +kernel
theorem dX3_turn_22 : decode cX3_turn 22 = .ok (.iload_n 1, 1) := by decide +kernel
theorem dX3_turn_23 : decode cX3_turn 23 = .ok (.if_icmp .ge 39, 3) := by decide +kernel
theorem dX3_turn_26 : decode cX3_turn 26 = .ok (.aload_n 0, 1) := by decide +kernel
theorem dX3_turn_27 : decode cX3_turn 27 = .ok (.getfield 15, 3) := by decide +kernel
theorem dX3_turn_30 : decode cX3_turn 30 = .ok (.iload_n 2, 1) := by decide +kernel
theorem dX3_turn_31 : decode cX3_turn 31 = .ok (.dup2, 1) := by decide +kernel
theorem dX3_turn_32 : decode cX3_turn 32 = .ok (.iaload, 1) := by decide +kernel
theorem dX3_turn_33 : decode cX3_turn 33 = .ok (.iconst 1, 1) := by decide +kernel
theorem dX3_turn_34 : decode cX3_turn 34 = .ok (.iadd, 1) := by decide +kernel
theorem dX3_turn_35 : decode cX3_turn 35 = .ok (.iastore, 1) := by decide +kernel
theorem dX3_turn_36 : decode cX3_turn 36 = .ok (.aload_n 0, 1) := by decide +kernel
theorem dX3_turn_37 : decode cX3_turn 37 = .ok (.dup, 1) := by decide +kernel
theorem dX3_turn_38 : decode cX3_turn 38 = .ok (.getfield 89, 3) := by decide +kernel
theorem dX3_turn_41 : decode cX3_turn 41 = .ok (.iconst 1, 1) := by decide +kernel
theorem dX3_turn_42 : decode cX3_turn 42 = .ok (.iadd, 1) := by decide +kernel
theorem dX3_turn_43 : decode cX3_turn 43 = .ok (.putfield 89, 3) := by decide +kernel
theorem dX3_turn_46 : decode cX3_turn 46 = .ok (.aload_n 0, 1) := by decide +kernel
theorem dX3_turn_47 : decode cX3_turn 47 = .ok (.dup, 1) := by decide +kernel
theorem dX3_turn_48 : decode cX3_turn 48 = .ok (.getfield 40, 3) := by decide +kernel
theorem dX3_turn_51 : decode cX3_turn 51 = .ok (.getstatic 77, 3) := by decide +kernel
theorem dX3_turn_54 : decode cX3_turn 54 = .ok (.iload_n 2, 1) := by decide +kernel
theorem dX3_turn_55 : decode cX3_turn 55 = .ok (.iaload, 1) := by decide +kernel
theorem dX3_turn_56 : decode cX3_turn 56 = .ok (.iadd, 1) := by decide +kernel
theorem dX3_turn_57 : decode cX3_turn 57 = .ok (.putfield 40, 3) := by decide +kernel
theorem dX3_turn_60 : decode cX3_turn 60 = .ok (.iconst 1, 1) := by decide +kernel
theorem dX3_turn_61 : decode cX3_turn 61 = .ok (.ireturn, 1) := by decide +kernel
theorem dX3_turn_62 : decode cX3_turn 62 = .ok (.aload_n 0, 1) := by decide +kernel
theorem dX3_turn_63 : decode cX3_turn 63 = .ok (.dup, 1) := by decide +kernel
theorem dX3_turn_64 : decode cX3_turn 64 = .ok (.getfield 89, 3) := by decide +kernel
theorem dX3_turn_67 : decode cX3_turn 67 = .ok (.aload_n 0, 1) := by decide +kernel
theorem dX3_turn_68 : decode cX3_turn 68 = .ok (.getfield 15, 3) := by decide +kernel
theorem dX3_turn_71 : decode cX3_turn 71 = .ok (.iload_n 2, 1) := by decide +kernel
theorem dX3_turn_72 : decode cX3_turn 72 = .ok (.iaload, 1) := by decide +kernel
theorem dX3_turn_73 : decode cX3_turn 73 = .ok (.isub, 1) := by decide +kernel
theorem dX3_turn_74 : decode cX3_turn 74 = .ok (.putfield 89, 3) := by decide +kernel
theorem dX3_turn_77 : decode cX3_turn 77 = .ok (.aload_n 0, 1) := by decide +kernel
theorem dX3_turn_78 : decode cX3_turn 78 = .ok (.dup, 1) := by decide +kernel
theorem dX3_turn_79 : decode cX3_turn 79 = .ok (.getfield 40, 3) := by decide +kernel
theorem dX3_turn_82 : decode cX3_turn 82 = .ok (.aload_n 0, 1) := by decide +kernel
theorem dX3_turn_83 : decode cX3_turn 83 = .ok (.getfield 15, 3) := by decide +kernel
theorem dX3_turn_86 : decode cX3_turn 86 = .ok (.iload_n 2, 1) := by decide +kernel
theorem dX3_turn_87 : decode cX3_turn 87 = .ok (.iaload, 1) := by decide +kernel
theorem dX3_turn_88 : decode cX3_turn 88 = .ok (.getstatic 77, 3) := by decide +kernel
theorem dX3_turn_91 : decode cX3_turn 91 = .ok (.iload_n 2, 1) := by decide +kernel
theorem dX3_turn_92 : decode cX3_turn 92 = .ok (.iaload, 1) := by decide +kernel
theorem dX3_turn_93 : decode cX3_turn 93 = .ok (.imul, 1) := by decide +kernel
theorem dX3_turn_94 : decode cX3_turn 94 = .ok (.isub, 1) := by decide +kernel
theorem dX3_turn_95 : decode cX3_turn 95 = .ok (.putfield 40, 3) := by decide +kernel
theorem dX3_turn_98 : decode cX3_turn 98 = .ok (.aload_n 0, 1) := by decide +kernel
theorem dX3_turn_99 : decode cX3_turn 99 = .ok (.getfield 15, 3) := by decide +kernel
theorem dX3_turn_102 : decode cX3_turn 102 = .ok (.iload_n 2, 1) := by decide +kernel
theorem dX3_turn_103 : decode cX3_turn 103 = .ok (.iconst 0, 1) := by decide +kernel
theorem dX3_turn_104 : decode cX3_turn 104 = .ok (.iastore, 1) := by decide +kernel
theorem dX3_turn_105 : decode cX3_turn 105 = .ok (.iinc 2 1, 3) := by decide +kernel
theorem dX3_turn_108 : decode cX3_turn 108 = .ok (.goto (-106), 3) := by decide +kernel
theorem dX3_turn_111 : decode cX3_turn 111 = .ok (.iconst 0, 1) := by decide +kernel
theorem dX3_turn_112 : decode cX3_turn 112 = .ok (.ireturn, 1) := by decide +kernel
theorem dX3_think_0 : decode cX3_think 0 = .ok (.aload_n 0, 1) := by decide +kernel
theorem dX3_think_1 : decode cX3_think 1 = .ok (.getfield 23, 3) := by decide +kernel
theorem dX3_think_4 : decode cX3_think 4 = .ok (.aload_n 1, 1) := by decide +kernel
theorem dX3_think_5 : decode cX3_think 5 = .ok (.getfield 92, 3) := by decide +kernel
theorem dX3_think_8 : decode cX3_think 8 = .ok (.iload_n 2, 1) := by decide +kernel
theorem dX3_think_9 : decode cX3_think 9 = .ok (.iadd, 1) := by decide +kernel
theorem dX3_think_10 : decode cX3_think 10 = .ok (.putfield 92, 3) := by decide +kernel
theorem dX3_think_13 : decode cX3_think 13 = .ok (.aload_n 0, 1) := by decide +kernel
theorem dX3_think_14 : decode cX3_think 14 = .ok (.getfield 23, 3) := by decide +kernel
theorem dX3_think_17 : decode cX3_think 17 = .ok (.aload_n 1, 1) := by decide +kernel
theorem dX3_think_18 : decode cX3_think 18 = .ok (.getfield 95, 3) := by decide +kernel
theorem dX3_think_21 : decode cX3_think 21 = .ok (.aload_n 0, 1) := by decide +kernel
theorem dX3_think_22 : decode cX3_think 22 = .ok (.getfield 89, 3) := by decide +kernel
theorem dX3_think_25 : decode cX3_think 25 = .ok (.iadd, 1) := by decide +kernel
theorem dX3_think_26 : decode cX3_think 26 = .ok (.putfield 95, 3) := by decide +kernel
theorem dX3_think_29 : decode cX3_think 29 = .ok (.iconst 0, 1) := by decide +kernel
theorem dX3_think_30 : decode cX3_think 30 = .ok (.istore_n 3, 1) := by decide +kernel
theorem dX3_think_31 : decode cX3_think 31 = .ok (.iload_n 3, 1) := by decide +kernel
theorem dX3_think_32 : decode cX3_think 32 = .ok (.aload_n 0, 1) := by decide +kernel
theorem dX3_think_33 : decode cX3_think 33 = .ok (.getfield 19, 3) := by decide +kernel
theorem dX3_think_36 : decode cX3_think 36 = .ok (.getfield 72, 3) := by decide +kernel
theorem dX3_think_39 : decode cX3_think 39 = .ok (.if_icmp .ge 41, 3) := by decide +kernel
theorem dX3_think_42 : decode cX3_think 42 = .ok (.iload_n 3, 1) := by decide +kernel
theorem dX3_think_43 : decode cX3_think 43 = .ok (.iconst 4, 1) := by decide +kernel
theorem dX3_think_44 : decode cX3_think 44 = .ok (.if_icmp .ge 36, 3) := by decide +kernel
theorem dX3_think_47 : decode cX3_think 47 = .ok (.aload_n 0, 1) := by decide +kernel
theorem dX3_think_48 : decode cX3_think 48 = .ok (.getfield 23, 3) := by decide +kernel
theorem dX3_think_51 : decode cX3_think 51 = .ok (.getfield 44, 3) := by decide +kernel
theorem dX3_think_54 : decode cX3_think 54 = .ok (.iload_n 3, 1) := by decide +kernel
theorem dX3_think_55 : decode cX3_think 55 = .ok (.aload_n 1, 1) := by decide +kernel
theorem dX3_think_56 : decode cX3_think 56 = .ok (.getfield 44, 3) := by decide +kernel
theorem dX3_think_59 : decode cX3_think 59 = .ok (.iload_n 3, 1) := by decide +kernel
theorem dX3_think_60 : decode cX3_think 60 = .ok (.iaload, 1) := by decide +kernel
theorem dX3_think_61 : decode cX3_think 61 = .ok (.aload_n 0, 1) := by decide +kernel
theorem dX3_think_62 : decode cX3_think 62 = .ok (.getfield 15, 3) := by decide +kernel
theorem dX3_think_65 : decode cX3_think 65 = .ok (.iload_n 3, 1) := by decide +kernel
theorem dX3_think_66 : decode cX3_think 66 = .ok (.iaload, 1) := by decide +kernel
theorem dX3_think_67 : decode cX3_think 67 = .ok (.iadd, 1) := by decide +kernel
theorem dX3_think_68 : decode cX3_think 68 = .ok (.ldc 98, 2) := by decide +kernel
theorem dX3_think_70 : decode cX3_think 70 = .ok (.invokestatic 99, 3) := by decide +kernel
theorem dX3_think_73 : decode cX3_think 73 = .ok (.iastore, 1) := by decide +kernel
theorem dX3_think_74 : decode cX3_think 74 = .ok (.iinc 3 1, 3) := by decide +kernel
theorem dX3_think_77 : decode cX3_think 77 = .ok (.goto (-46), 3) := by decide +kernel
theorem dX3_think_80 : decode cX3_think 80 = .ok (.return_, 1) := by decide +kernel
