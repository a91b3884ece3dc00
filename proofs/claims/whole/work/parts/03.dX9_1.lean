theorem dX9_begins_71 : decode cX9_begins 71 = .ok (.bipush 12, 2) := by decide +kernel
theorem dX9_begins_73 : decode cX9_begins 73 = .ok (.iload_n 1, 1) := by decide +kernel
theorem dX9_begins_74 : decode cX9_begins 74 = .ok (.imul, 1) := by decide +kernel
theorem dX9_begins_75 : decode cX9_begins 75 = .ok (.iadd, 1) := by decide +kernel
theorem dX9_begins_76 : decode cX9_begins 76 = .ok (.iload 7, 2) := by decide +kernel
theorem dX9_begins_78 : decode cX9_begins 78 = .ok (.iadd, 1) := by decide +kernel
theorem dX9_begins_79 : decode cX9_begins 79 = .ok (.iconst 0, 1) := by decide +kernel
theorem dX9_begins_80 : decode cX9_begins 80 = .ok (.iastore, 1) := by decide +kernel
theorem dX9_begins_81 : decode cX9_begins 81 = .ok (.iinc 7 1, 3) := by decide +kernel
theorem dX9_begins_84 : decode cX9_begins 84 = .ok (.goto (-26), 3) := by decide +kernel
theorem dX9_begins_87 : decode cX9_begins 87 = .ok (.return_, 1) := by decide +kernel
theorem dX9_world_0 : decode cX9_world 0 = .ok (.iload_n 1, 1) := by decide +kernel
theorem dX9_world_1 : decode cX9_world 1 = .ok (.ifCond .lt 34, 3) := by decide +kernel
theorem dX9_world_4 : decode cX9_world 4 = .ok (.aload_n 0, 1) := by decide +kernel
theorem dX9_world_5 : decode cX9_world 5 = .ok (.iload_n 1, 1) := by decide +kernel
theorem dX9_world_6 : decode cX9_world 6 = .ok (.bipush 10, 2) := by decide +kernel
theorem dX9_world_8 : decode cX9_world 8 = .ok (.idiv, 1) := by decide +kernel
theorem dX9_world_9 : decode cX9_world 9 = .ok (.invokevirtual 177, 3) := by decide +kernel
theorem dX9_world_12 : decode cX9_world 12 = .ok (.ifCond .eq 23, 3) := by decide +kernel
theorem dX9_world_15 : decode cX9_world 15 = .ok (.iload_n 1, 1) := by decide +kernel
theorem dX9_world_16 : decode cX9_world 16 = .ok (.bipush 10, 2) := by decide +kernel
theorem dX9_world_18 : decode cX9_world 18 = .ok (.irem, 1) := by decide +kernel
theorem dX9_world_19 : decode cX9_world 19 = .ok (.iconst 2, 1) := by decide +kernel
theorem dX9_world_20 : decode cX9_world 20 = .ok (.if_icmp .gt 15, 3) := by decide +kernel
theorem dX9_world_23 : decode cX9_world 23 = .ok (.iload_n 2, 1) := by decide +kernel
theorem dX9_world_24 : decode cX9_world 24 = .ok (.i2l, 1) := by decide +kernel
theorem dX9_world_25 : decode cX9_world 25 = .ok (.lconst 0, 1) := by decide +kernel
theorem dX9_world_26 : decode cX9_world 26 = .ok (.ldc2_w 180, 3) := by decide +kernel
theorem dX9_world_29 : decode cX9_world 29 = .ok (.invokestatic 102, 3) := by decide +kernel
theorem dX9_world_32 : decode cX9_world 32 = .ok (.ifCond .ne 5, 3) := by decide +kernel
theorem dX9_world_35 : decode cX9_world 35 = .ok (.iconst (-1), 1) := by decide +kernel
theorem dX9_world_36 : decode cX9_world 36 = .ok (.ireturn, 1) := by decide +kernel
theorem dX9_world_37 : decode cX9_world 37 = .ok (.aload_n 0, 1) := by decide +kernel
theorem dX9_world_38 : decode cX9_world 38 = .ok (.getfield 174, 3) := by decide +kernel
theorem dX9_world_41 : decode cX9_world 41 = .ok (.bipush 9, 2) := by decide +kernel
theorem dX9_world_43 : decode cX9_world 43 = .ok (.if_icmp .ne 6, 3) := by decide +kernel
theorem dX9_world_46 : decode cX9_world 46 = .ok (.bipush (-3), 2) := by decide +kernel
theorem dX9_world_48 : decode cX9_world 48 = .ok (.ireturn, 1) := by decide +kernel
theorem dX9_world_49 : decode cX9_world 49 = .ok (.aload_n 0, 1) := by decide +kernel
theorem dX9_world_50 : decode cX9_world 50 = .ok (.aload_n 0, 1) := by decide +kernel
theorem dX9_world_51 : decode cX9_world 51 = .ok (.getfield 174, 3) := by decide +kernel
theorem dX9_world_54 : decode cX9_world 54 = .ok (.iload_n 1, 1) := by decide +kernel
theorem dX9_world_55 : decode cX9_world 55 = .ok (.bipush 10, 2) := by decide +kernel
theorem dX9_world_57 : decode cX9_world 57 = .ok (.idiv, 1) := by decide +kernel
theorem dX9_world_58 : decode cX9_world 58 = .ok (.iload_n 1, 1) := by decide +kernel
theorem dX9_world_59 : decode cX9_world 59 = .ok (.bipush 10, 2) := by decide +kernel
theorem dX9_world_61 : decode cX9_world 61 = .ok (.irem, 1) := by decide +kernel
theorem dX9_world_62 : decode cX9_world 62 = .ok (.iload_n 2, 1) := by decide +kernel
theorem dX9_world_63 : decode cX9_world 63 = .ok (.sipush 10000, 3) := by decide +kernel
theorem dX9_world_66 : decode cX9_world 66 = .ok (.idiv, 1) := by decide +kernel
theorem dX9_world_67 : decode cX9_world 67 = .ok (.iload_n 2, 1) := by decide +kernel
theorem dX9_world_68 : decode cX9_world 68 = .ok (.sipush 10000, 3) := by decide +kernel
theorem dX9_world_71 : decode cX9_world 71 = .ok (.irem, 1) := by decide +kernel
theorem dX9_world_72 : decode cX9_world 72 = .ok (.iload_n 3, 1) := by decide +kernel
theorem dX9_world_73 : decode cX9_world 73 = .ok (.invokevirtual 182, 3) := by decide +kernel
theorem dX9_world_76 : decode cX9_world 76 = .ok (.aload_n 0, 1) := by decide +kernel
theorem dX9_world_77 : decode cX9_world 77 = .ok (.dup, 1) := by decide +kernel
theorem dX9_world_78 : decode cX9_world 78 = .ok (.getfield 174, 3) := by decide +kernel
theorem dX9_world_81 : decode cX9_world 81 = .ok (.iconst 1, 1) := by decide +kernel
theorem dX9_world_82 : decode cX9_world 82 = .ok (.iadd, 1) := by decide +kernel
theorem dX9_world_83 : decode cX9_world 83 = .ok (.putfield 174, 3) := by decide +kernel
theorem dX9_world_86 : decode cX9_world 86 = .ok (.aload_n 0, 1) := by decide +kernel
theorem dX9_world_87 : decode cX9_world 87 = .ok (.getfield 174, 3) := by decide +kernel
theorem dX9_world_90 : decode cX9_world 90 = .ok (.iconst 1, 1) := by decide +kernel
theorem dX9_world_91 : decode cX9_world 91 = .ok (.isub, 1) := by decide +kernel
theorem dX9_world_92 : decode cX9_world 92 = .ok (.ireturn, 1) := by decide +kernel
theorem dX9_nothing_0 : decode cX9_nothing 0 = .ok (.aload_n 0, 1) := by decide +kernel
theorem dX9_nothing_1 : decode cX9_nothing 1 = .ok (.iload_n 1, 1) := by decide +kernel
theorem dX9_nothing_2 : decode cX9_nothing 2 = .ok (.invokevirtual 186, 3) := by decide +kernel
theorem dX9_nothing_5 : decode cX9_nothing 5 = .ok (.ifCond .eq 27, 3) := by decide +kernel
theorem dX9_nothing_8 : decode cX9_nothing 8 = .ok (.iload_n 2, 1) := by decide +kernel
theorem dX9_nothing_9 : decode cX9_nothing 9 = .ok (.i2l, 1) := by decide +kernel
theorem dX9_nothing_10 : decode cX9_nothing 10 = .ok (.lconst 0, 1) := by decide +kernel
theorem dX9_nothing_11 : decode cX9_nothing 11 = .ok (.ldc2_w 189, 3) := by decide +kernel
theorem dX9_nothing_14 : decode cX9_nothing 14 = .ok (.invokestatic 102, 3) := by decide +kernel
theorem dX9_nothing_17 : decode cX9_nothing 17 = .ok (.ifCond .eq 15, 3) := by decide +kernel
theorem dX9_nothing_20 : decode cX9_nothing 20 = .ok (.aload_n 0, 1) := by decide +kernel
theorem dX9_nothing_21 : decode cX9_nothing 21 = .ok (.bipush 12, 2) := by decide +kernel
theorem dX9_nothing_23 : decode cX9_nothing 23 = .ok (.iload_n 1, 1) := by decide +kernel
theorem dX9_nothing_24 : decode cX9_nothing 24 = .ok (.iadd, 1) := by decide +kernel
theorem dX9_nothing_25 : decode cX9_nothing 25 = .ok (.iload_n 2, 1) := by decide +kernel
theorem dX9_nothing_26 : decode cX9_nothing 26 = .ok (.invokevirtual 115, 3) := by decide +kernel
theorem dX9_nothing_29 : decode cX9_nothing 29 = .ok (.goto 4, 3) := by decide +kernel
theorem dX9_nothing_32 : decode cX9_nothing 32 = .ok (.iconst (-1), 1) := by decide +kernel
theorem dX9_nothing_33 : decode cX9_nothing 33 = .ok (.ireturn, 1) := by decide +kernel
theorem dX9_place_0 : decode cX9_place 0 = .ok (.iconst 0, 1) := by decide +kernel
theorem dX9_place_1 : decode cX9_place 1 = .ok (.istore_n 3, 1) := by decide +kernel
theorem dX9_place_2 : decode cX9_place 2 = .ok (.iconst 0, 1) := by decide +kernel
theorem dX9_place_3 : decode cX9_place 3 = .ok (.istore 4, 2) := by decide +kernel
theorem dX9_place_5 : decode cX9_place 5 = .ok (.iload 4, 2) := by decide +kernel
theorem dX9_place_7 : decode cX9_place 7 = .ok (.aload_n 0, 1) := by decide +kernel
theorem dX9_place_8 : decode cX9_place 8 = .ok (.getfield 99, 3) := by decide +kernel
theorem dX9_place_11 : decode cX9_place 11 = .ok (.if_icmp .ge 55, 3) := by decide +kernel
theorem dX9_place_14 : decode cX9_place 14 = .ok (.iload_n 3, 1) := by decide +kernel
theorem dX9_place_15 : decode cX9_place 15 = .ok (.aload_n 0, 1) := by decide +kernel
theorem dX9_place_16 : decode cX9_place 16 = .ok (.iload_n 1, 1) := by decide +kernel
theorem dX9_place_17 : decode cX9_place 17 = .ok (.iload 4, 2) := by decide +kernel
theorem dX9_place_19 : decode cX9_place 19 = .ok (.invokevirtual 191, 3) := by decide +kernel
theorem dX9_place_22 : decode cX9_place 22 = .ok (.aload_n 0, 1) := by decide +kernel
theorem dX9_place_23 : decode cX9_place 23 = .ok (.iload_n 1, 1) := by decide +kernel
theorem dX9_place_24 : decode cX9_place 24 = .ok (.iload_n 2, 1) := by decide +kernel
theorem dX9_place_25 : decode cX9_place 25 = .ok (.invokevirtual 191, 3) := by decide +kernel
theorem dX9_place_28 : decode cX9_place 28 = .ok (.if_icmp .gt 25, 3) := by decide +kernel
theorem dX9_place_31 : decode cX9_place 31 = .ok (.aload_n 0, 1) := by decide +kernel
theorem dX9_place_32 : decode cX9_place 32 = .ok (.iload_n 1, 1) := by decide +kernel
theorem dX9_place_33 : decode cX9_place 33 = .ok (.iload 4, 2) := by decide +kernel
theorem dX9_place_35 : decode cX9_place 35 = .ok (.invokevirtual 191, 3) := by decide +kernel
theorem dX9_place_38 : decode cX9_place 38 = .ok (.aload_n 0, 1) := by decide +kernel
theorem dX9_place_39 : decode cX9_place 39 = .ok (.iload_n 1, 1) := by decide +kernel
theorem dX9_place_40 : decode cX9_place 40 = .ok (.iload_n 2, 1) := by decide +kernel
theorem dX9_place_41 : decode cX9_place 41 = .ok (.invokevirtual 191, 3) := by decide +kernel
theorem dX9_place_44 : decode cX9_place 44 = .ok (.if_icmp .ne 13, 3) := by decide +kernel
theorem dX9_place_47 : decode cX9_place 47 = .ok (.iload 4, 2) := by decide +kernel
theorem dX9_place_49 : decode cX9_place 49 = .ok (.iload_n 2, 1) := by decide +kernel
theorem dX9_place_50 : decode cX9_place 50 = .ok (.if_icmp .ge 7, 3) := by decide +kernel
theorem dX9_place_53 : decode cX9_place 53 = .ok (.iconst 1, 1) := by decide +kernel
theorem dX9_place_54 : decode cX9_place 54 = .ok (.goto 4, 3) := by decide +kernel
theorem dX9_place_57 : decode cX9_place 57 = .ok (.iconst 0, 1) := by decide +kernel
theorem dX9_place_58 : decode cX9_place 58 = .ok (.iadd, 1) := by decide +kernel
theorem dX9_place_59 : decode cX9_place 59 = .ok (.istore_n 3, 1) := by decide +kernel
theorem dX9_place_60 : decode cX9_place 60 = .ok (.iinc 4 1, 3) := by decide +kernel
theorem dX9_place_63 : decode cX9_place 63 = .ok (.goto (-58), 3) := by decide +kernel
theorem dX9_place_66 : decode cX9_place 66 = .ok (.iload_n 3, 1) := by decide +kernel
theorem dX9_place_67 : decode cX9_place 67 = .ok (.ireturn, 1) := by decide +kernel
theorem dX9_seenPlace_0 : decode cX9_seenPlace 0 = .ok (.aload_n 0, 1) := by decide +kernel
theorem dX9_seenPlace_1 : decode cX9_seenPlace 1 = .ok (.getfield 37, 3) := by decide +kernel
theorem dX9_seenPlace_4 : decode cX9_seenPlace 4 = .ok (.iload_n 1, 1) := by decide +kernel
theorem dX9_seenPlace_5 : decode cX9_seenPlace 5 = .ok (.iaload, 1) := by decide +kernel
theorem dX9_seenPlace_6 : decode cX9_seenPlace 6 = .ok (.ifCond .ne 5, 3) := by decide +kernel
theorem dX9_seenPlace_9 : decode cX9_seenPlace 9 = .ok (.iconst 0, 1) := by decide +kernel
theorem dX9_seenPlace_10 : decode cX9_seenPlace 10 = .ok (.ireturn, 1) := by decide +kernel
theorem dX9_seenPlace_11 : decode cX9_seenPlace 11 = .ok (.aload_n 0, 1) := by decide +kernel
theorem dX9_seenPlace_12 : decode cX9_seenPlace 12 = .ok (.getfield 37, 3) := by decide +kernel
theorem dX9_seenPlace_15 : decode cX9_seenPlace 15 = .ok (.iload_n 1, 1) := by decide +kernel
theorem dX9_seenPlace_16 : decode cX9_seenPlace 16 = .ok (.iaload, 1) := by decide +kernel
theorem dX9_seenPlace_17 : decode cX9_seenPlace 17 = .ok (.iconst 2, 1) := by decide +kernel
theorem dX9_seenPlace_18 : decode cX9_seenPlace 18 = .ok (.if_icmp .ne 34, 3) := by decide +kernel
theorem dX9_seenPlace_21 : decode cX9_seenPlace 21 = .ok (.aload_n 0, 1) := by decide +kernel
theorem dX9_seenPlace_22 : decode cX9_seenPlace 22 = .ok (.getfield 46, 3) := by decide +kernel
theorem dX9_seenPlace_25 : decode cX9_seenPlace 25 = .ok (.iload_n 1, 1) := by decide +kernel
theorem dX9_seenPlace_26 : decode cX9_seenPlace 26 = .ok (.iaload, 1) := by decide +kernel
theorem dX9_seenPlace_27 : decode cX9_seenPlace 27 = .ok (.aload_n 0, 1) := by decide +kernel
theorem dX9_seenPlace_28 : decode cX9_seenPlace 28 = .ok (.getfield 40, 3) := by decide +kernel
theorem dX9_seenPlace_31 : decode cX9_seenPlace 31 = .ok (.iload_n 1, 1) := by decide +kernel
theorem dX9_seenPlace_32 : decode cX9_seenPlace 32 = .ok (.iaload, 1) := by decide +kernel
theorem dX9_seenPlace_33 : decode cX9_seenPlace 33 = .ok (.if_icmp .ge 19, 3) := by decide +kernel
theorem dX9_seenPlace_36 : decode cX9_seenPlace 36 = .ok (.aload_n 0, 1) := by decide +kernel
theorem dX9_seenPlace_37 : decode cX9_seenPlace 37 = .ok (.getfield 99, 3) := by decide +kernel
theorem dX9_seenPlace_40 : decode cX9_seenPlace 40 = .ok (.iconst 1, 1) := by decide +kernel
theorem dX9_seenPlace_41 : decode cX9_seenPlace 41 = .ok (.isub, 1) := by decide +kernel
theorem dX9_seenPlace_42 : decode cX9_seenPlace 42 = .ok (.aload_n 0, 1) := by decide +kernel
theorem dX9_seenPlace_43 : decode cX9_seenPlace 43 = .ok (.iload_n 1, 1) := by decide +kernel
theorem dX9_seenPlace_44 : decode cX9_seenPlace 44 = .ok (.iload_n 2, 1) := by decide +kernel
theorem dX9_seenPlace_45 : decode cX9_seenPlace 45 = .ok (.invokevirtual 194, 3) := by decide +kernel
theorem dX9_seenPlace_48 : decode cX9_seenPlace 48 = .ok (.isub, 1) := by decide +kernel
theorem dX9_seenPlace_49 : decode cX9_seenPlace 49 = .ok (.goto 9, 3) := by decide +kernel
theorem dX9_seenPlace_52 : decode cX9_seenPlace 52 = .ok (.aload_n 0, 1) := by decide +kernel
theorem dX9_seenPlace_53 : decode cX9_seenPlace 53 = .ok (.iload_n 1, 1) := by decide +kernel
theorem dX9_seenPlace_54 : decode cX9_seenPlace 54 = .ok (.iload_n 2, 1) := by decide +kernel
theorem dX9_seenPlace_55 : decode cX9_seenPlace 55 = .ok (.invokevirtual 194, 3) := by decide +kernel
theorem dX9_seenPlace_58 : decode cX9_seenPlace 58 = .ok (.ireturn, 1) := by decide +kernel
theorem dX9_songAt_0 : decode cX9_songAt 0 = .ok (.iconst 0, 1) := by decide +kernel
theorem dX9_songAt_1 : decode cX9_songAt 1 = .ok (.istore_n 3, 1) := by decide +kernel
theorem dX9_songAt_2 : decode cX9_songAt 2 = .ok (.aload_n 0, 1) := by decide +kernel
theorem dX9_songAt_3 : decode cX9_songAt 3 = .ok (.iload_n 1, 1) := by decide +kernel
theorem dX9_songAt_4 : decode cX9_songAt 4 = .ok (.iload_n 3, 1) := by decide +kernel
theorem dX9_songAt_5 : decode cX9_songAt 5 = .ok (.invokevirtual 194, 3) := by decide +kernel
theorem dX9_songAt_8 : decode cX9_songAt 8 = .ok (.iload_n 2, 1) := by decide +kernel
theorem dX9_songAt_9 : decode cX9_songAt 9 = .ok (.if_icmp .eq 9, 3) := by decide +kernel
theorem dX9_songAt_12 : decode cX9_songAt 12 = .ok (.iinc 3 1, 3) := by decide +kernel
theorem dX9_songAt_15 : decode cX9_songAt 15 = .ok (.goto (-13), 3) := by decide +kernel
theorem dX9_songAt_18 : decode cX9_songAt 18 = .ok (.iload_n 3, 1) := by decide +kernel
theorem dX9_songAt_19 : decode cX9_songAt 19 = .ok (.ireturn, 1) := by decide +kernel
theorem dX9_weighs_0 : decode cX9_weighs 0 = .ok (.aload_n 0, 1) := by decide +kernel
theorem dX9_weighs_1 : decode cX9_weighs 1 = .ok (.getfield 31, 3) := by decide +kernel
theorem dX9_weighs_4 : decode cX9_weighs 4 = .ok (.iconst 0, 1) := by decide +kernel
theorem dX9_weighs_5 : decode cX9_weighs 5 = .ok (.aload_n 0, 1) := by decide +kernel
theorem dX9_weighs_6 : decode cX9_weighs 6 = .ok (.getfield 9, 3) := by decide +kernel
theorem dX9_weighs_9 : decode cX9_weighs 9 = .ok (.iload_n 2, 1) := by decide +kernel
theorem dX9_weighs_10 : decode cX9_weighs 10 = .ok (.iaload, 1) := by decide +kernel
theorem dX9_weighs_11 : decode cX9_weighs 11 = .ok (.iastore, 1) := by decide +kernel
theorem dX9_weighs_12 : decode cX9_weighs 12 = .ok (.aload_n 0, 1) := by decide +kernel
theorem dX9_weighs_13 : decode cX9_weighs 13 = .ok (.getfield 31, 3) := by decide +kernel
theorem dX9_weighs_16 : decode cX9_weighs 16 = .ok (.iconst 1, 1) := by decide +kernel
theorem dX9_weighs_17 : decode cX9_weighs 17 = .ok (.iload_n 3, 1) := by decide +kernel
theorem dX9_weighs_18 : decode cX9_weighs 18 = .ok (.iastore, 1) := by decide +kernel
theorem dX9_weighs_19 : decode cX9_weighs 19 = .ok (.aload_n 0, 1) := by decide +kernel
theorem dX9_weighs_20 : decode cX9_weighs 20 = .ok (.getfield 31, 3) := by decide +kernel
theorem dX9_weighs_23 : decode cX9_weighs 23 = .ok (.iconst 2, 1) := by decide +kernel
theorem dX9_weighs_24 : decode cX9_weighs 24 = .ok (.iload 4, 2) := by decide +kernel
theorem dX9_weighs_26 : decode cX9_weighs 26 = .ok (.iastore, 1) := by decide +kernel
theorem dX9_weighs_27 : decode cX9_weighs 27 = .ok (.aload_n 0, 1) := by decide +kernel
theorem dX9_weighs_28 : decode cX9_weighs 28 = .ok (.getfield 31, 3) := by decide +kernel
theorem dX9_weighs_31 : decode cX9_weighs 31 = .ok (.iconst 3, 1) := by decide +kernel
theorem dX9_weighs_32 : decode cX9_weighs 32 = .ok (.aload_n 0, 1) := by decide +kernel
theorem dX9_weighs_33 : decode cX9_weighs 33 = .ok (.getfield 99, 3) := by decide +kernel
theorem dX9_weighs_36 : decode cX9_weighs 36 = .ok (.iastore, 1) := by decide +kernel
theorem dX9_weighs_37 : decode cX9_weighs 37 = .ok (.aload_n 0, 1) := by decide +kernel
theorem dX9_weighs_38 : decode cX9_weighs 38 = .ok (.getfield 31, 3) := by decide +kernel
theorem dX9_weighs_41 : decode cX9_weighs 41 = .ok (.iconst 4, 1) := by decide +kernel
theorem dX9_weighs_42 : decode cX9_weighs 42 = .ok (.iload 5, 2) := by decide +kernel
theorem dX9_weighs_44 : decode cX9_weighs 44 = .ok (.iastore, 1) := by decide +kernel
theorem dX9_weighs_45 : decode cX9_weighs 45 = .ok (.aload_n 0, 1) := by decide +kernel
theorem dX9_weighs_46 : decode cX9_weighs 46 = .ok (.getfield 31, 3) := by decide +kernel
theorem dX9_weighs_49 : decode cX9_weighs 49 = .ok (.iconst 5, 1) := by decide +kernel
theorem dX9_weighs_50 : decode cX9_weighs 50 = .ok (.iload 6, 2) := by decide +kernel
theorem dX9_weighs_52 : decode cX9_weighs 52 = .ok (.iastore, 1) := by decide +kernel
theorem dX9_weighs_53 : decode cX9_weighs 53 = .ok (.aload_n 0, 1) := by decide +kernel
theorem dX9_weighs_54 : decode cX9_weighs 54 = .ok (.getfield 31, 3) := by decide +kernel
theorem dX9_weighs_57 : decode cX9_weighs 57 = .ok (.bipush 6, 2) := by decide +kernel
theorem dX9_weighs_59 : decode cX9_weighs 59 = .ok (.iload_n 2, 1) := by decide +kernel
theorem dX9_weighs_60 : decode cX9_weighs 60 = .ok (.iastore, 1) := by decide +kernel
theorem dX9_weighs_61 : decode cX9_weighs 61 = .ok (.aload_n 0, 1) := by decide +kernel
theorem dX9_weighs_62 : decode cX9_weighs 62 = .ok (.bipush 120, 2) := by decide +kernel
theorem dX9_weighs_64 : decode cX9_weighs 64 = .ok (.iload_n 1, 1) := by decide +kernel
theorem dX9_weighs_65 : decode cX9_weighs 65 = .ok (.imul, 1) := by decide +kernel
theorem dX9_weighs_66 : decode cX9_weighs 66 = .ok (.aload_n 0, 1) := by decide +kernel
theorem dX9_weighs_67 : decode cX9_weighs 67 = .ok (.getfield 28, 3) := by decide +kernel
theorem dX9_weighs_70 : decode cX9_weighs 70 = .ok (.iload_n 1, 1) := by decide +kernel
theorem dX9_weighs_71 : decode cX9_weighs 71 = .ok (.iaload, 1) := by decide +kernel
theorem dX9_weighs_72 : decode cX9_weighs 72 = .ok (.invokevirtual 171, 3) := by decide +kernel
theorem dX9_weighs_75 : decode cX9_weighs 75 = .ok (.istore 7, 2) := by decide +kernel
theorem dX9_weighs_77 : decode cX9_weighs 77 = .ok (.iload 7, 2) := by decide +kernel
theorem dX9_weighs_79 : decode cX9_weighs 79 = .ok (.ifCond .ge 7, 3) := by decide +kernel
theorem dX9_weighs_82 : decode cX9_weighs 82 = .ok (.iconst 0, 1) := by decide +kernel
theorem dX9_weighs_83 : decode cX9_weighs 83 = .ok (.goto 19, 3) := by decide +kernel
theorem dX9_weighs_86 : decode cX9_weighs 86 = .ok (.iload 7, 2) := by decide +kernel
theorem dX9_weighs_88 : decode cX9_weighs 88 = .ok (.sipush 9999, 3) := by decide +kernel
theorem dX9_weighs_91 : decode cX9_weighs 91 = .ok (.if_icmp .le 9, 3) := by decide +kernel
theorem dX9_weighs_94 : decode cX9_weighs 94 = .ok (.sipush 9999, 3) := by decide +kernel
theorem dX9_weighs_97 : decode cX9_weighs 97 = .ok (.goto 5, 3) := by decide +kernel
theorem dX9_weighs_100 : decode cX9_weighs 100 = .ok (.iload 7, 2) := by decide +kernel
theorem dX9_weighs_102 : decode cX9_weighs 102 = .ok (.ireturn, 1) := by decide +kernel
theorem dX9_weightOf_0 : decode cX9_weightOf 0 = .ok (.aload_n 0, 1) := by decide +kernel
theorem dX9_weightOf_1 : decode cX9_weightOf 1 = .ok (.aload_n 0, 1) := by decide +kernel
theorem dX9_weightOf_2 : decode cX9_weightOf 2 = .ok (.getfield 34, 3) := by decide +kernel
theorem dX9_weightOf_5 : decode cX9_weightOf 5 = .ok (.iload_n 1, 1) := by decide +kernel
theorem dX9_weightOf_6 : decode cX9_weightOf 6 = .ok (.iaload, 1) := by decide +kernel
theorem dX9_weightOf_7 : decode cX9_weightOf 7 = .ok (.iload_n 2, 1) := by decide +kernel
theorem dX9_weightOf_8 : decode cX9_weightOf 8 = .ok (.aload_n 0, 1) := by decide +kernel
theorem dX9_weightOf_9 : decode cX9_weightOf 9 = .ok (.getfield 37, 3) := by decide +kernel
theorem dX9_weightOf_12 : decode cX9_weightOf 12 = .ok (.iload_n 1, 1) := by decide +kernel
theorem dX9_weightOf_13 : decode cX9_weightOf 13 = .ok (.iaload, 1) := by decide +kernel
theorem dX9_weightOf_14 : decode cX9_weightOf 14 = .ok (.ifCond .ne 7, 3) := by decide +kernel
theorem dX9_weightOf_17 : decode cX9_weightOf 17 = .ok (.iconst 0, 1) := by decide +kernel
theorem dX9_weightOf_18 : decode cX9_weightOf 18 = .ok (.goto 9, 3) := by decide +kernel
theorem dX9_weightOf_21 : decode cX9_weightOf 21 = .ok (.aload_n 0, 1) := by decide +kernel
theorem dX9_weightOf_22 : decode cX9_weightOf 22 = .ok (.iload_n 1, 1) := by decide +kernel
theorem dX9_weightOf_23 : decode cX9_weightOf 23 = .ok (.iload_n 2, 1) := by decide +kernel
theorem dX9_weightOf_24 : decode cX9_weightOf 24 = .ok (.invokevirtual 191, 3) := by decide +kernel
theorem dX9_weightOf_27 : decode cX9_weightOf 27 = .ok (.aload_n 0, 1) := by decide +kernel
theorem dX9_weightOf_28 : decode cX9_weightOf 28 = .ok (.iload_n 1, 1) := by decide +kernel
theorem dX9_weightOf_29 : decode cX9_weightOf 29 = .ok (.iload_n 2, 1) := by decide +kernel
theorem dX9_weightOf_30 : decode cX9_weightOf 30 = .ok (.invokevirtual 197, 3) := by decide +kernel
theorem dX9_weightOf_33 : decode cX9_weightOf 33 = .ok (.aload_n 0, 1) := by decide +kernel
theorem dX9_weightOf_34 : decode cX9_weightOf 34 = .ok (.getfield 46, 3) := by decide +kernel
theorem dX9_weightOf_37 : decode cX9_weightOf 37 = .ok (.iload_n 1, 1) := by decide +kernel
theorem dX9_weightOf_38 : decode cX9_weightOf 38 = .ok (.iaload, 1) := by decide +kernel
theorem dX9_weightOf_39 : decode cX9_weightOf 39 = .ok (.aload_n 0, 1) := by decide +kernel
theorem dX9_weightOf_40 : decode cX9_weightOf 40 = .ok (.getfield 49, 3) := by decide +kernel
theorem dX9_weightOf_43 : decode cX9_weightOf 43 = .ok (.iload_n 1, 1) := by decide +kernel
theorem dX9_weightOf_44 : decode cX9_weightOf 44 = .ok (.iaload, 1) := by decide +kernel
theorem dX9_weightOf_45 : decode cX9_weightOf 45 = .ok (.invokevirtual 200, 3) := by decide +kernel
theorem dX9_weightOf_48 : decode cX9_weightOf 48 = .ok (.ireturn, 1) := by decide +kernel
theorem dX9_allCounts_0 : decode cX9_allCounts 0 = .ok (.iconst 0, 1) := by decide +kernel
theorem dX9_allCounts_1 : decode cX9_allCounts 1 = .ok (.istore_n 2, 1) := by decide +kernel
theorem dX9_allCounts_2 : decode cX9_allCounts 2 = .ok (.iconst 0, 1) := by decide +kernel
theorem dX9_allCounts_3 : decode cX9_allCounts 3 = .ok (.istore_n 3, 1) := by decide +kernel
theorem dX9_allCounts_4 : decode cX9_allCounts 4 = .ok (.iload_n 3, 1) := by decide +kernel
theorem dX9_allCounts_5 : decode cX9_allCounts 5 = .ok (.aload_n 0, 1) := by decide +kernel
theorem dX9_allCounts_6 : decode cX9_allCounts 6 = .ok (.getfield 99, 3) := by decide +kernel
theorem dX9_allCounts_9 : decode cX9_allCounts 9 = .ok (.if_icmp .ge 18, 3) := by decide +kernel
theorem dX9_allCounts_12 : decode cX9_allCounts 12 = .ok (.iload_n 2, 1) := by decide +kernel
theorem dX9_allCounts_13 : decode cX9_allCounts 13 = .ok (.aload_n 0, 1) := by decide +kernel
theorem dX9_allCounts_14 : decode cX9_allCounts 14 = .ok (.iload_n 1, 1) := by decide +kernel
theorem dX9_allCounts_15 : decode cX9_allCounts 15 = .ok (.iload_n 3, 1) := by decide +kernel
theorem dX9_allCounts_16 : decode cX9_allCounts 16 = .ok (.invokevirtual 191, 3) := by decide +kernel
theorem dX9_allCounts_19 : decode cX9_allCounts 19 = .ok (.iadd, 1) := by decide +kernel
theorem dX9_allCounts_20 : decode cX9_allCounts 20 = .ok (.istore_n 2, 1) := by decide +kernel
theorem dX9_allCounts_21 : decode cX9_allCounts 21 = .ok (.iinc 3 1, 3) := by decide +kernel
theorem dX9_allCounts_24 : decode cX9_allCounts 24 = .ok (.goto (-20), 3) := by decide +kernel
theorem dX9_allCounts_27 : decode cX9_allCounts 27 = .ok (.iload_n 2, 1) := by decide +kernel
theorem dX9_allCounts_28 : decode cX9_allCounts 28 = .ok (.ireturn, 1) := by decide +kernel
theorem dX9_share_0 : decode cX9_share 0 = .ok (.aload_n 0, 1) := by decide +kernel
theorem dX9_share_1 : decode cX9_share 1 = .ok (.iload_n 1, 1) := by decide +kernel
theorem dX9_share_2 : decode cX9_share 2 = .ok (.invokevirtual 204, 3) := by decide +kernel
theorem dX9_share_5 : decode cX9_share 5 = .ok (.istore_n 3, 1) := by decide +kernel
theorem dX9_share_6 : decode cX9_share 6 = .ok (.iload_n 3, 1) := by decide +kernel
theorem dX9_share_7 : decode cX9_share 7 = .ok (.ifCond .ne 7, 3) := by decide +kernel
theorem dX9_share_10 : decode cX9_share 10 = .ok (.iconst 0, 1) := by decide +kernel
theorem dX9_share_11 : decode cX9_share 11 = .ok (.goto 18, 3) := by decide +kernel
theorem dX9_share_14 : decode cX9_share 14 = .ok (.ldc2_w 207, 3) := by decide +kernel
theorem dX9_share_17 : decode cX9_share 17 = .ok (.aload_n 0, 1) := by decide +kernel
theorem dX9_share_18 : decode cX9_share 18 = .ok (.iload_n 1, 1) := by decide +kernel
theorem dX9_share_19 : decode cX9_share 19 = .ok (.iload_n 2, 1) := by decide +kernel
theorem dX9_share_20 : decode cX9_share 20 = .ok (.invokevirtual 191, 3) := by decide +kernel
theorem dX9_share_23 : decode cX9_share 23 = .ok (.i2l, 1) := by decide +kernel
theorem dX9_share_24 : decode cX9_share 24 = .ok (.lmul, 1) := by decide +kernel
theorem dX9_share_25 : decode cX9_share 25 = .ok (.iload_n 3, 1) := by decide +kernel
theorem dX9_share_26 : decode cX9_share 26 = .ok (.i2l, 1) := by decide +kernel
theorem dX9_share_27 : decode cX9_share 27 = .ok (.ldiv, 1) := by decide +kernel
theorem dX9_share_28 : decode cX9_share 28 = .ok (.l2i, 1) := by decide +kernel
theorem dX9_share_29 : decode cX9_share 29 = .ok (.ireturn, 1) := by decide +kernel
theorem dX9_of_0 : decode cX9_of 0 = .ok (.aload_n 0, 1) := by decide +kernel
theorem dX9_of_1 : decode cX9_of 1 = .ok (.iload_n 1, 1) := by decide +kernel
theorem dX9_of_2 : decode cX9_of 2 = .ok (.invokevirtual 186, 3) := by decide +kernel
theorem dX9_of_5 : decode cX9_of 5 = .ok (.ifCond .ne 5, 3) := by decide +kernel
theorem dX9_of_8 : decode cX9_of 8 = .ok (.iconst (-1), 1) := by decide +kernel
theorem dX9_of_9 : decode cX9_of 9 = .ok (.ireturn, 1) := by decide +kernel
theorem dX9_of_10 : decode cX9_of 10 = .ok (.iload_n 2, 1) := by decide +kernel
theorem dX9_of_11 : decode cX9_of 11 = .ok (.tableswitch 80 0 4 #[33, 40, 47, 54, 61], 33) := by decide +kernel
theorem dX9_of_44 : decode cX9_of 44 = .ok (.aload_n 0, 1) := by decide +kernel
theorem dX9_of_45 : decode cX9_of 45 = .ok (.getfield 46, 3) := by decide +kernel
theorem dX9_of_48 : decode cX9_of 48 = .ok (.iload_n 1, 1) := by decide +kernel
theorem dX9_of_49 : decode cX9_of 49 = .ok (.iaload, 1) := by decide +kernel
theorem dX9_of_50 : decode cX9_of 50 = .ok (.ireturn, 1) := by decide +kernel
theorem dX9_of_51 : decode cX9_of 51 = .ok (.aload_n 0, 1) := by decide +kernel
theorem dX9_of_52 : decode cX9_of 52 = .ok (.getfield 49, 3) := by decide +kernel
theorem dX9_of_55 : decode cX9_of 55 = .ok (.iload_n 1, 1) := by decide +kernel
theorem dX9_of_56 : decode cX9_of 56 = .ok (.iaload, 1) := by decide +kernel
theorem dX9_of_57 : decode cX9_of 57 = .ok (.ireturn, 1) := by decide +kernel
theorem dX9_of_58 : decode cX9_of 58 = .ok (.aload_n 0, 1) := by decide +kernel
theorem dX9_of_59 : decode cX9_of 59 = .ok (.getfield 34, 3) := by decide +kernel
theorem dX9_of_62 : decode cX9_of 62 = .ok (.iload_n 1, 1) := by decide +kernel
theorem dX9_of_63 : decode cX9_of 63 = .ok (.iaload, 1) := by decide +kernel
theorem dX9_of_64 : decode cX9_of 64 = .ok (.ireturn, 1) := by decide +kernel
theorem dX9_of_65 : decode cX9_of 65 = .ok (.aload_n 0, 1) := by decide +kernel
theorem dX9_of_66 : decode cX9_of 66 = .ok (.getfield 37, 3) := by decide +kernel
theorem dX9_of_69 : decode cX9_of 69 = .ok (.iload_n 1, 1) := by decide +kernel
theorem dX9_of_70 : decode cX9_of 70 = .ok (.iaload, 1) := by decide +kernel
theorem dX9_of_71 : decode cX9_of 71 = .ok (.ireturn, 1) := by decide +kernel
theorem dX9_of_72 : decode cX9_of 72 = .ok (.aload_n 0, 1) := by decide +kernel
theorem dX9_of_73 : decode cX9_of 73 = .ok (.getfield 99, 3) := by decide +kernel
theorem dX9_of_76 : decode cX9_of 76 = .ok (.ifCond .ne 8, 3) := by decide +kernel
theorem dX9_of_79 : decode cX9_of 79 = .ok (.bipush (-2), 2) := by decide +kernel
theorem dX9_of_81 : decode cX9_of 81 = .ok (.goto 9, 3) := by decide +kernel
theorem dX9_of_84 : decode cX9_of 84 = .ok (.aload_n 0, 1) := by decide +kernel
theorem dX9_of_85 : decode cX9_of 85 = .ok (.iload_n 1, 1) := by decide +kernel
theorem dX9_of_86 : decode cX9_of 86 = .ok (.iconst 0, 1) := by decide +kernel
theorem dX9_of_87 : decode cX9_of 87 = .ok (.invokevirtual 209, 3) := by decide +kernel
theorem dX9_of_90 : decode cX9_of 90 = .ok (.ireturn, 1) := by decide +kernel
theorem dX9_of_91 : decode cX9_of 91 = .ok (.iload_n 2, 1) := by decide +kernel
theorem dX9_of_92 : decode cX9_of 92 = .ok (.bipush 100, 2) := by decide +kernel
theorem dX9_of_94 : decode cX9_of 94 = .ok (.irem, 1) := by decide +kernel
theorem dX9_of_95 : decode cX9_of 95 = .ok (.istore_n 3, 1) := by decide +kernel
theorem dX9_of_96 : decode cX9_of 96 = .ok (.iload_n 2, 1) := by decide +kernel
theorem dX9_of_97 : decode cX9_of 97 = .ok (.i2l, 1) := by decide +kernel
theorem dX9_of_98 : decode cX9_of 98 = .ok (.ldc2_w 212, 3) := by decide +kernel
theorem dX9_of_101 : decode cX9_of 101 = .ok (.ldc2_w 214, 3) := by decide +kernel
theorem dX9_of_104 : decode cX9_of 104 = .ok (.invokestatic 102, 3) := by decide +kernel
theorem dX9_of_107 : decode cX9_of 107 = .ok (.ifCond .eq 11, 3) := by decide +kernel
theorem dX9_of_110 : decode cX9_of 110 = .ok (.aload_n 0, 1) := by decide +kernel
theorem dX9_of_111 : decode cX9_of 111 = .ok (.iload_n 3, 1) := by decide +kernel
theorem dX9_of_112 : decode cX9_of 112 = .ok (.invokevirtual 111, 3) := by decide +kernel
theorem dX9_of_115 : decode cX9_of 115 = .ok (.ifCond .ne 5, 3) := by decide +kernel
theorem dX9_of_118 : decode cX9_of 118 = .ok (.iconst (-1), 1) := by decide +kernel
theorem dX9_of_119 : decode cX9_of 119 = .ok (.ireturn, 1) := by decide +kernel
theorem dX9_of_120 : decode cX9_of 120 = .ok (.iload_n 2, 1) := by decide +kernel
theorem dX9_of_121 : decode cX9_of 121 = .ok (.sipush 200, 3) := by decide +kernel
theorem dX9_of_124 : decode cX9_of 124 = .ok (.if_icmp .ge 12, 3) := by decide +kernel
theorem dX9_of_127 : decode cX9_of 127 = .ok (.aload_n 0, 1) := by decide +kernel
theorem dX9_of_128 : decode cX9_of 128 = .ok (.iload_n 1, 1) := by decide +kernel
theorem dX9_of_129 : decode cX9_of 129 = .ok (.iload_n 3, 1) := by decide +kernel
theorem dX9_of_130 : decode cX9_of 130 = .ok (.invokevirtual 191, 3) := by decide +kernel
theorem dX9_of_133 : decode cX9_of 133 = .ok (.goto 41, 3) := by decide +kernel
theorem dX9_of_136 : decode cX9_of 136 = .ok (.iload_n 2, 1) := by decide +kernel
theorem dX9_of_137 : decode cX9_of 137 = .ok (.sipush 300, 3) := by decide +kernel
theorem dX9_of_140 : decode cX9_of 140 = .ok (.if_icmp .ge 12, 3) := by decide +kernel
theorem dX9_of_143 : decode cX9_of 143 = .ok (.aload_n 0, 1) := by decide +kernel
theorem dX9_of_144 : decode cX9_of 144 = .ok (.iload_n 1, 1) := by decide +kernel
theorem dX9_of_145 : decode cX9_of 145 = .ok (.iload_n 3, 1) := by decide +kernel
theorem dX9_of_146 : decode cX9_of 146 = .ok (.invokevirtual 194, 3) := by decide +kernel
theorem dX9_of_149 : decode cX9_of 149 = .ok (.goto 25, 3) := by decide +kernel
theorem dX9_of_152 : decode cX9_of 152 = .ok (.iload_n 2, 1) := by decide +kernel
theorem dX9_of_153 : decode cX9_of 153 = .ok (.sipush 400, 3) := by decide +kernel
theorem dX9_of_156 : decode cX9_of 156 = .ok (.if_icmp .ge 12, 3) := by decide +kernel
theorem dX9_of_159 : decode cX9_of 159 = .ok (.aload_n 0, 1) := by decide +kernel
theorem dX9_of_160 : decode cX9_of 160 = .ok (.iload_n 1, 1) := by decide +kernel
theorem dX9_of_161 : decode cX9_of 161 = .ok (.iload_n 3, 1) := by decide +kernel
theorem dX9_of_162 : decode cX9_of 162 = .ok (.invokevirtual 197, 3) := by decide +kernel
theorem dX9_of_165 : decode cX9_of 165 = .ok (.goto 9, 3) := by decide +kernel
theorem dX9_of_168 : decode cX9_of 168 = .ok (.aload_n 0, 1) := by decide +kernel
theorem dX9_of_169 : decode cX9_of 169 = .ok (.iload_n 1, 1) := by decide +kernel
theorem dX9_of_170 : decode cX9_of 170 = .ok (.iload_n 3, 1) := by decide +kernel
theorem dX9_of_171 : decode cX9_of 171 = .ok (.invokevirtual 216, 3) := by decide +kernel
theorem dX9_of_174 : decode cX9_of 174 = .ok (.ireturn, 1) := by decide +kernel
theorem dX9_weight_0 : decode cX9_weight 0 = .ok (.aload_n 0, 1) := by decide +kernel
theorem dX9_weight_1 : decode cX9_weight 1 = .ok (.iload_n 1, 1) := by decide +kernel
theorem dX9_weight_2 : decode cX9_weight 2 = .ok (.invokevirtual 186, 3) := by decide +kernel
theorem dX9_weight_5 : decode cX9_weight 5 = .ok (.ifCond .eq 20, 3) := by decide +kernel
theorem dX9_weight_8 : decode cX9_weight 8 = .ok (.aload_n 0, 1) := by decide +kernel
theorem dX9_weight_9 : decode cX9_weight 9 = .ok (.iload_n 2, 1) := by decide +kernel
theorem dX9_weight_10 : decode cX9_weight 10 = .ok (.invokevirtual 111, 3) := by decide +kernel
theorem dX9_weight_13 : decode cX9_weight 13 = .ok (.ifCond .eq 12, 3) := by decide +kernel
theorem dX9_weight_16 : decode cX9_weight 16 = .ok (.aload_n 0, 1) := by decide +kernel
theorem dX9_weight_17 : decode cX9_weight 17 = .ok (.iload_n 1, 1) := by decide +kernel
theorem dX9_weight_18 : decode cX9_weight 18 = .ok (.iload_n 2, 1) := by decide +kernel
theorem dX9_weight_19 : decode cX9_weight 19 = .ok (.invokevirtual 219, 3) := by decide +kernel
theorem dX9_weight_22 : decode cX9_weight 22 = .ok (.goto 4, 3) := by decide +kernel
theorem dX9_weight_25 : decode cX9_weight 25 = .ok (.iconst (-1), 1) := by decide +kernel
theorem dX9_weight_26 : decode cX9_weight 26 = .ok (.ireturn, 1) := by decide +kernel
theorem dX9_findWeights_0 : decode cX9_findWeights 0 = .ok (.aload_n 0, 1) := by decide +kernel
theorem dX9_findWeights_1 : decode cX9_findWeights 1 = .ok (.getfield 9, 3) := by decide +kernel
theorem dX9_findWeights_4 : decode cX9_findWeights 4 = .ok (.bipush 12, 2) := by decide +kernel
theorem dX9_findWeights_6 : decode cX9_findWeights 6 = .ok (.iload_n 1, 1) := by decide +kernel
theorem dX9_findWeights_7 : decode cX9_findWeights 7 = .ok (.iadd, 1) := by decide +kernel
theorem dX9_findWeights_8 : decode cX9_findWeights 8 = .ok (.iaload, 1) := by decide +kernel
theorem dX9_findWeights_9 : decode cX9_findWeights 9 = .ok (.istore_n 2, 1) := by decide +kernel
theorem dX9_findWeights_10 : decode cX9_findWeights 10 = .ok (.iconst 0, 1) := by decide +kernel
theorem dX9_findWeights_11 : decode cX9_findWeights 11 = .ok (.istore_n 3, 1) := by decide +kernel
theorem dX9_findWeights_12 : decode cX9_findWeights 12 = .ok (.iload_n 3, 1) := by decide +kernel
theorem dX9_findWeights_13 : decode cX9_findWeights 13 = .ok (.aload_n 0, 1) := by decide +kernel
theorem dX9_findWeights_14 : decode cX9_findWeights 14 = .ok (.getfield 99, 3) := by decide +kernel
theorem dX9_findWeights_17 : decode cX9_findWeights 17 = .ok (.if_icmp .ge 30, 3) := by decide +kernel
theorem dX9_findWeights_20 : decode cX9_findWeights 20 = .ok (.aload_n 0, 1) := by decide +kernel
theorem dX9_findWeights_21 : decode cX9_findWeights 21 = .ok (.getfield 55, 3) := by decide +kernel
theorem dX9_findWeights_24 : decode cX9_findWeights 24 = .ok (.iload_n 3, 1) := by decide +kernel
theorem dX9_findWeights_25 : decode cX9_findWeights 25 = .ok (.aload_n 0, 1) := by decide +kernel
theorem dX9_findWeights_26 : decode cX9_findWeights 26 = .ok (.iload_n 1, 1) := by decide +kernel
theorem dX9_findWeights_27 : decode cX9_findWeights 27 = .ok (.iload_n 3, 1) := by decide +kernel
theorem dX9_findWeights_28 : decode cX9_findWeights 28 = .ok (.invokevirtual 219, 3) := by decide +kernel
theorem dX9_findWeights_31 : decode cX9_findWeights 31 = .ok (.iastore, 1) := by decide +kernel
theorem dX9_findWeights_32 : decode cX9_findWeights 32 = .ok (.iload_n 2, 1) := by decide +kernel
theorem dX9_findWeights_33 : decode cX9_findWeights 33 = .ok (.aload_n 0, 1) := by decide +kernel
theorem dX9_findWeights_34 : decode cX9_findWeights 34 = .ok (.getfield 55, 3) := by decide +kernel
theorem dX9_findWeights_37 : decode cX9_findWeights 37 = .ok (.iload_n 3, 1) := by decide +kernel
theorem dX9_findWeights_38 : decode cX9_findWeights 38 = .ok (.iaload, 1) := by decide +kernel
theorem dX9_findWeights_39 : decode cX9_findWeights 39 = .ok (.iadd, 1) := by decide +kernel
theorem dX9_findWeights_40 : decode cX9_findWeights 40 = .ok (.istore_n 2, 1) := by decide +kernel
theorem dX9_findWeights_41 : decode cX9_findWeights 41 = .ok (.iinc 3 1, 3) := by decide +kernel
theorem dX9_findWeights_44 : decode cX9_findWeights 44 = .ok (.goto (-32), 3) := by decide +kernel
theorem dX9_findWeights_47 : decode cX9_findWeights 47 = .ok (.iload_n 2, 1) := by decide +kernel
theorem dX9_findWeights_48 : decode cX9_findWeights 48 = .ok (.ireturn, 1) := by decide +kernel
theorem dX9_keeps_0 : decode cX9_keeps 0 = .ok (.aload_n 0, 1) := by decide +kernel
theorem dX9_keeps_1 : decode cX9_keeps 1 = .ok (.getfield 49, 3) := by decide +kernel
theorem dX9_keeps_4 : decode cX9_keeps 4 = .ok (.iload_n 1, 1) := by decide +kernel
theorem dX9_keeps_5 : decode cX9_keeps 5 = .ok (.iaload, 1) := by decide +kernel
theorem dX9_keeps_6 : decode cX9_keeps 6 = .ok (.sipush 200, 3) := by decide +kernel
theorem dX9_keeps_9 : decode cX9_keeps 9 = .ok (.if_icmp .ge 21, 3) := by decide +kernel
theorem dX9_keeps_12 : decode cX9_keeps 12 = .ok (.aload_n 0, 1) := by decide +kernel
theorem dX9_keeps_13 : decode cX9_keeps 13 = .ok (.getfield 52, 3) := by decide +kernel
theorem dX9_keeps_16 : decode cX9_keeps 16 = .ok (.sipush 200, 3) := by decide +kernel
theorem dX9_keeps_19 : decode cX9_keeps 19 = .ok (.iload_n 1, 1) := by decide +kernel
theorem dX9_keeps_20 : decode cX9_keeps 20 = .ok (.imul, 1) := by decide +kernel
theorem dX9_keeps_21 : decode cX9_keeps 21 = .ok (.aload_n 0, 1) := by decide +kernel
theorem dX9_keeps_22 : decode cX9_keeps 22 = .ok (.getfield 49, 3) := by decide +kernel
theorem dX9_keeps_25 : decode cX9_keeps 25 = .ok (.iload_n 1, 1) := by decide +kernel
theorem dX9_keeps_26 : decode cX9_keeps 26 = .ok (.iaload, 1) := by decide +kernel
theorem dX9_keeps_27 : decode cX9_keeps 27 = .ok (.iadd, 1) := by decide +kernel
theorem dX9_keeps_28 : decode cX9_keeps 28 = .ok (.iload_n 2, 1) := by decide +kernel
theorem dX9_keeps_29 : decode cX9_keeps 29 = .ok (.iastore, 1) := by decide +kernel
theorem dX9_keeps_30 : decode cX9_keeps 30 = .ok (.aload_n 0, 1) := by decide +kernel
theorem dX9_keeps_31 : decode cX9_keeps 31 = .ok (.getfield 49, 3) := by decide +kernel
theorem dX9_keeps_34 : decode cX9_keeps 34 = .ok (.iload_n 1, 1) := by decide +kernel
theorem dX9_keeps_35 : decode cX9_keeps 35 = .ok (.dup2, 1) := by decide +kernel
theorem dX9_keeps_36 : decode cX9_keeps 36 = .ok (.iaload, 1) := by decide +kernel
theorem dX9_keeps_37 : decode cX9_keeps 37 = .ok (.iconst 1, 1) := by decide +kernel
theorem dX9_keeps_38 : decode cX9_keeps 38 = .ok (.iadd, 1) := by decide +kernel
theorem dX9_keeps_39 : decode cX9_keeps 39 = .ok (.iastore, 1) := by decide +kernel
theorem dX9_keeps_40 : decode cX9_keeps 40 = .ok (.bipush 23, 2) := by decide +kernel
theorem dX9_keeps_42 : decode cX9_keeps 42 = .ok (.bipush 12, 2) := by decide +kernel
theorem dX9_keeps_44 : decode cX9_keeps 44 = .ok (.iload_n 1, 1) := by decide +kernel
theorem dX9_keeps_45 : decode cX9_keeps 45 = .ok (.imul, 1) := by decide +kernel
theorem dX9_keeps_46 : decode cX9_keeps 46 = .ok (.iadd, 1) := by decide +kernel
theorem dX9_keeps_47 : decode cX9_keeps 47 = .ok (.iload_n 2, 1) := by decide +kernel
theorem dX9_keeps_48 : decode cX9_keeps 48 = .ok (.iadd, 1) := by decide +kernel
theorem dX9_keeps_49 : decode cX9_keeps 49 = .ok (.istore_n 3, 1) := by decide +kernel
theorem dX9_keeps_50 : decode cX9_keeps 50 = .ok (.aload_n 0, 1) := by decide +kernel
theorem dX9_keeps_51 : decode cX9_keeps 51 = .ok (.getfield 9, 3) := by decide +kernel
theorem dX9_keeps_54 : decode cX9_keeps 54 = .ok (.iload_n 3, 1) := by decide +kernel
theorem dX9_keeps_55 : decode cX9_keeps 55 = .ok (.dup2, 1) := by decide +kernel
theorem dX9_keeps_56 : decode cX9_keeps 56 = .ok (.iaload, 1) := by decide +kernel
theorem dX9_keeps_57 : decode cX9_keeps 57 = .ok (.aload_n 0, 1) := by decide +kernel
theorem dX9_keeps_58 : decode cX9_keeps 58 = .ok (.getfield 9, 3) := by decide +kernel
theorem dX9_keeps_61 : decode cX9_keeps 61 = .ok (.iload_n 3, 1) := by decide +kernel
theorem dX9_keeps_62 : decode cX9_keeps 62 = .ok (.iaload, 1) := by decide +kernel
theorem dX9_keeps_63 : decode cX9_keeps 63 = .ok (.ldc 222, 2) := by decide +kernel
theorem dX9_keeps_65 : decode cX9_keeps 65 = .ok (.if_icmp .ge 7, 3) := by decide +kernel
theorem dX9_keeps_68 : decode cX9_keeps 68 = .ok (.iconst 1, 1) := by decide +kernel
theorem dX9_keeps_69 : decode cX9_keeps 69 = .ok (.goto 4, 3) := by decide +kernel
theorem dX9_keeps_72 : decode cX9_keeps 72 = .ok (.iconst 0, 1) := by decide +kernel
theorem dX9_keeps_73 : decode cX9_keeps 73 = .ok (.iadd, 1) := by decide +kernel
theorem dX9_keeps_74 : decode cX9_keeps 74 = .ok (.iastore, 1) := by decide +kernel
theorem dX9_keeps_75 : decode cX9_keeps 75 = .ok (.return_, 1) := by decide +kernel
theorem dX9_comesOne_0 : decode cX9_comesOne 0 = .ok (.aload_n 0, 1) := by decide +kernel
theorem dX9_comesOne_1 : decode cX9_comesOne 1 = .ok (.iload_n 1, 1) := by decide +kernel
theorem dX9_comesOne_2 : decode cX9_comesOne 2 = .ok (.invokevirtual 223, 3) := by decide +kernel
theorem dX9_comesOne_5 : decode cX9_comesOne 5 = .ok (.istore_n 2, 1) := by decide +kernel
theorem dX9_comesOne_6 : decode cX9_comesOne 6 = .ok (.aload_n 0, 1) := by decide +kernel
theorem dX9_comesOne_7 : decode cX9_comesOne 7 = .ok (.getfield 43, 3) := by decide +kernel
theorem dX9_comesOne_10 : decode cX9_comesOne 10 = .ok (.iload_n 1, 1) := by decide +kernel
theorem dX9_comesOne_11 : decode cX9_comesOne 11 = .ok (.aload_n 0, 1) := by decide +kernel
theorem dX9_comesOne_12 : decode cX9_comesOne 12 = .ok (.getfield 43, 3) := by decide +kernel
theorem dX9_comesOne_15 : decode cX9_comesOne 15 = .ok (.iload_n 1, 1) := by decide +kernel
theorem dX9_comesOne_16 : decode cX9_comesOne 16 = .ok (.iaload, 1) := by decide +kernel
theorem dX9_comesOne_17 : decode cX9_comesOne 17 = .ok (.ldc 226, 2) := by decide +kernel
theorem dX9_comesOne_19 : decode cX9_comesOne 19 = .ok (.imul, 1) := by decide +kernel
theorem dX9_comesOne_20 : decode cX9_comesOne 20 = .ok (.sipush 12345, 3) := by decide +kernel
theorem dX9_comesOne_23 : decode cX9_comesOne 23 = .ok (.iadd, 1) := by decide +kernel
theorem dX9_comesOne_24 : decode cX9_comesOne 24 = .ok (.iastore, 1) := by decide +kernel
theorem dX9_comesOne_25 : decode cX9_comesOne 25 = .ok (.iload_n 2, 1) := by decide +kernel
theorem dX9_comesOne_26 : decode cX9_comesOne 26 = .ok (.ifCond .ne 7, 3) := by decide +kernel
theorem dX9_comesOne_29 : decode cX9_comesOne 29 = .ok (.iconst 0, 1) := by decide +kernel
theorem dX9_comesOne_30 : decode cX9_comesOne 30 = .ok (.goto 14, 3) := by decide +kernel
theorem dX9_comesOne_33 : decode cX9_comesOne 33 = .ok (.aload_n 0, 1) := by decide +kernel
theorem dX9_comesOne_34 : decode cX9_comesOne 34 = .ok (.getfield 43, 3) := by decide +kernel
theorem dX9_comesOne_37 : decode cX9_comesOne 37 = .ok (.iload_n 1, 1) := by decide +kernel
theorem dX9_comesOne_38 : decode cX9_comesOne 38 = .ok (.iaload, 1) := by decide +kernel
theorem dX9_comesOne_39 : decode cX9_comesOne 39 = .ok (.bipush 8, 2) := by decide +kernel
theorem dX9_comesOne_41 : decode cX9_comesOne 41 = .ok (.iushr, 1) := by decide +kernel
theorem dX9_comesOne_42 : decode cX9_comesOne 42 = .ok (.iload_n 2, 1) := by decide +kernel
theorem dX9_comesOne_43 : decode cX9_comesOne 43 = .ok (.irem, 1) := by decide +kernel
theorem dX9_comesOne_44 : decode cX9_comesOne 44 = .ok (.istore_n 3, 1) := by decide +kernel
theorem dX9_comesOne_45 : decode cX9_comesOne 45 = .ok (.aload_n 0, 1) := by decide +kernel
theorem dX9_comesOne_46 : decode cX9_comesOne 46 = .ok (.getfield 46, 3) := by decide +kernel
theorem dX9_comesOne_49 : decode cX9_comesOne 49 = .ok (.iload_n 1, 1) := by decide +kernel
theorem dX9_comesOne_50 : decode cX9_comesOne 50 = .ok (.dup2, 1) := by decide +kernel
theorem dX9_comesOne_51 : decode cX9_comesOne 51 = .ok (.iaload, 1) := by decide +kernel
theorem dX9_comesOne_52 : decode cX9_comesOne 52 = .ok (.iconst 1, 1) := by decide +kernel
theorem dX9_comesOne_53 : decode cX9_comesOne 53 = .ok (.iadd, 1) := by decide +kernel
theorem dX9_comesOne_54 : decode cX9_comesOne 54 = .ok (.iastore, 1) := by decide +kernel
theorem dX9_comesOne_55 : decode cX9_comesOne 55 = .ok (.iconst 0, 1) := by decide +kernel
theorem dX9_comesOne_56 : decode cX9_comesOne 56 = .ok (.istore 4, 2) := by decide +kernel
theorem dX9_comesOne_58 : decode cX9_comesOne 58 = .ok (.iload 4, 2) := by decide +kernel
theorem dX9_comesOne_60 : decode cX9_comesOne 60 = .ok (.aload_n 0, 1) := by decide +kernel
theorem dX9_comesOne_61 : decode cX9_comesOne 61 = .ok (.getfield 99, 3) := by decide +kernel
theorem dX9_comesOne_64 : decode cX9_comesOne 64 = .ok (.if_icmp .ge 43, 3) := by decide +kernel
theorem dX9_comesOne_67 : decode cX9_comesOne 67 = .ok (.iload_n 2, 1) := by decide +kernel
theorem dX9_comesOne_68 : decode cX9_comesOne 68 = .ok (.ifCond .le 39, 3) := by decide +kernel
theorem dX9_comesOne_71 : decode cX9_comesOne 71 = .ok (.iload_n 3, 1) := by decide +kernel
theorem dX9_comesOne_72 : decode cX9_comesOne 72 = .ok (.aload_n 0, 1) := by decide +kernel
theorem dX9_comesOne_73 : decode cX9_comesOne 73 = .ok (.getfield 55, 3) := by decide +kernel
theorem dX9_comesOne_76 : decode cX9_comesOne 76 = .ok (.iload 4, 2) := by decide +kernel
theorem dX9_comesOne_78 : decode cX9_comesOne 78 = .ok (.iaload, 1) := by decide +kernel
theorem dX9_comesOne_79 : decode cX9_comesOne 79 = .ok (.if_icmp .ge 12, 3) := by decide +kernel
theorem dX9_comesOne_82 : decode cX9_comesOne 82 = .ok (.aload_n 0, 1) := by decide +kernel
theorem dX9_comesOne_83 : decode cX9_comesOne 83 = .ok (.iload_n 1, 1) := by decide +kernel
theorem dX9_comesOne_84 : decode cX9_comesOne 84 = .ok (.iload 4, 2) := by decide +kernel
theorem dX9_comesOne_86 : decode cX9_comesOne 86 = .ok (.invokevirtual 227, 3) := by decide +kernel
theorem dX9_comesOne_89 : decode cX9_comesOne 89 = .ok (.iconst 1, 1) := by decide +kernel
theorem dX9_comesOne_90 : decode cX9_comesOne 90 = .ok (.ireturn, 1) := by decide +kernel
theorem dX9_comesOne_91 : decode cX9_comesOne 91 = .ok (.iload_n 3, 1) := by decide +kernel
theorem dX9_comesOne_92 : decode cX9_comesOne 92 = .ok (.aload_n 0, 1) := by decide +kernel
theorem dX9_comesOne_93 : decode cX9_comesOne 93 = .ok (.getfield 55, 3) := by decide +kernel
theorem dX9_comesOne_96 : decode cX9_comesOne 96 = .ok (.iload 4, 2) := by decide +kernel
theorem dX9_comesOne_98 : decode cX9_comesOne 98 = .ok (.iaload, 1) := by decide +kernel
theorem dX9_comesOne_99 : decode cX9_comesOne 99 = .ok (.isub, 1) := by decide +kernel
theorem dX9_comesOne_100 : decode cX9_comesOne 100 = .ok (.istore_n 3, 1) := by decide +kernel
theorem dX9_comesOne_101 : decode cX9_comesOne 101 = .ok (.iinc 4 1, 3) := by decide +kernel
theorem dX9_comesOne_104 : decode cX9_comesOne 104 = .ok (.goto (-46), 3) := by decide +kernel
theorem dX9_comesOne_107 : decode cX9_comesOne 107 = .ok (.iconst 0, 1) := by decide +kernel
theorem dX9_comesOne_108 : decode cX9_comesOne 108 = .ok (.ireturn, 1) := by decide +kernel
theorem dX9_comesAll_0 : decode cX9_comesAll 0 = .ok (.iconst 0, 1) := by decide +kernel
theorem dX9_comesAll_1 : decode cX9_comesAll 1 = .ok (.istore_n 3, 1) := by decide +kernel
theorem dX9_comesAll_2 : decode cX9_comesAll 2 = .ok (.iconst 0, 1) := by decide +kernel
theorem dX9_comesAll_3 : decode cX9_comesAll 3 = .ok (.istore 4, 2) := by decide +kernel
theorem dX9_comesAll_5 : decode cX9_comesAll 5 = .ok (.iload 4, 2) := by decide +kernel
theorem dX9_comesAll_7 : decode cX9_comesAll 7 = .ok (.iload_n 2, 1) := by decide +kernel
theorem dX9_comesAll_8 : decode cX9_comesAll 8 = .ok (.if_icmp .ge 25, 3) := by decide +kernel
theorem dX9_comesAll_11 : decode cX9_comesAll 11 = .ok (.iload_n 3, 1) := by decide +kernel
theorem dX9_comesAll_12 : decode cX9_comesAll 12 = .ok (.aload_n 0, 1) := by decide +kernel
theorem dX9_comesAll_13 : decode cX9_comesAll 13 = .ok (.iload_n 1, 1) := by decide +kernel
theorem dX9_comesAll_14 : decode cX9_comesAll 14 = .ok (.invokevirtual 231, 3) := by decide +kernel
theorem dX9_comesAll_17 : decode cX9_comesAll 17 = .ok (.ifCond .eq 7, 3) := by decide +kernel
theorem dX9_comesAll_20 : decode cX9_comesAll 20 = .ok (.iconst 1, 1) := by decide +kernel
theorem dX9_comesAll_21 : decode cX9_comesAll 21 = .ok (.goto 4, 3) := by decide +kernel
theorem dX9_comesAll_24 : decode cX9_comesAll 24 = .ok (.iconst 0, 1) := by decide +kernel
theorem dX9_comesAll_25 : decode cX9_comesAll 25 = .ok (.iadd, 1) := by decide +kernel
theorem dX9_comesAll_26 : decode cX9_comesAll 26 = .ok (.istore_n 3, 1) := by decide +kernel
theorem dX9_comesAll_27 : decode cX9_comesAll 27 = .ok (.iinc 4 1, 3) := by decide +kernel
theorem dX9_comesAll_30 : decode cX9_comesAll 30 = .ok (.goto (-25), 3) := by decide +kernel
theorem dX9_comesAll_33 : decode cX9_comesAll 33 = .ok (.iload_n 3, 1) := by decide +kernel
theorem dX9_comesAll_34 : decode cX9_comesAll 34 = .ok (.ireturn, 1) := by decide +kernel
theorem dX9_come_0 : decode cX9_come 0 = .ok (.aload_n 0, 1) := by decide +kernel
theorem dX9_come_1 : decode cX9_come 1 = .ok (.iload_n 1, 1) := by decide +kernel
theorem dX9_come_2 : decode cX9_come 2 = .ok (.invokevirtual 186, 3) := by decide +kernel
theorem dX9_come_5 : decode cX9_come 5 = .ok (.ifCond .eq 24, 3) := by decide +kernel
theorem dX9_come_8 : decode cX9_come 8 = .ok (.iload_n 2, 1) := by decide +kernel
theorem dX9_come_9 : decode cX9_come 9 = .ok (.i2l, 1) := by decide +kernel
theorem dX9_come_10 : decode cX9_come 10 = .ok (.lconst 1, 1) := by decide +kernel
theorem dX9_come_11 : decode cX9_come 11 = .ok (.ldc2_w 234, 3) := by decide +kernel
theorem dX9_come_14 : decode cX9_come 14 = .ok (.invokestatic 102, 3) := by decide +kernel
theorem dX9_come_17 : decode cX9_come 17 = .ok (.ifCond .eq 12, 3) := by decide +kernel
theorem dX9_come_20 : decode cX9_come 20 = .ok (.aload_n 0, 1) := by decide +kernel
theorem dX9_come_21 : decode cX9_come 21 = .ok (.iload_n 1, 1) := by decide +kernel
theorem dX9_come_22 : decode cX9_come 22 = .ok (.iload_n 2, 1) := by decide +kernel
theorem dX9_come_23 : decode cX9_come 23 = .ok (.invokevirtual 236, 3) := by decide +kernel
theorem dX9_come_26 : decode cX9_come 26 = .ok (.goto 4, 3) := by decide +kernel
theorem dX9_come_29 : decode cX9_come 29 = .ok (.iconst (-1), 1) := by decide +kernel
theorem dX9_come_30 : decode cX9_come 30 = .ok (.ireturn, 1) := by decide +kernel
theorem dX9_keepings_0 : decode cX9_keepings 0 = .ok (.aload_n 0, 1) := by decide +kernel
theorem dX9_keepings_1 : decode cX9_keepings 1 = .ok (.iload_n 1, 1) := by decide +kernel
theorem dX9_keepings_2 : decode cX9_keepings 2 = .ok (.invokevirtual 186, 3) := by decide +kernel
theorem dX9_keepings_5 : decode cX9_keepings 5 = .ok (.ifCond .eq 23, 3) := by decide +kernel
theorem dX9_keepings_8 : decode cX9_keepings 8 = .ok (.iload_n 2, 1) := by decide +kernel
theorem dX9_keepings_9 : decode cX9_keepings 9 = .ok (.invokestatic 239, 3) := by decide +kernel
theorem dX9_keepings_12 : decode cX9_keepings 12 = .ok (.ifCond .eq 16, 3) := by decide +kernel
theorem dX9_keepings_15 : decode cX9_keepings 15 = .ok (.iload 4, 2) := by decide +kernel
theorem dX9_keepings_17 : decode cX9_keepings 17 = .ok (.i2l, 1) := by decide +kernel
theorem dX9_keepings_18 : decode cX9_keepings 18 = .ok (.lconst 1, 1) := by decide +kernel
theorem dX9_keepings_19 : decode cX9_keepings 19 = .ok (.ldc2_w 242, 3) := by decide +kernel
theorem dX9_keepings_22 : decode cX9_keepings 22 = .ok (.invokestatic 102, 3) := by decide +kernel
theorem dX9_keepings_25 : decode cX9_keepings 25 = .ok (.ifCond .ne 5, 3) := by decide +kernel
theorem dX9_keepings_28 : decode cX9_keepings 28 = .ok (.iconst (-1), 1) := by decide +kernel
theorem dX9_keepings_29 : decode cX9_keepings 29 = .ok (.ireturn, 1) := by decide +kernel
theorem dX9_keepings_30 : decode cX9_keepings 30 = .ok (.aload_n 0, 1) := by decide +kernel
theorem dX9_keepings_31 : decode cX9_keepings 31 = .ok (.getfield 79, 3) := by decide +kernel
theorem dX9_keepings_34 : decode cX9_keepings 34 = .ok (.iload_n 2, 1) := by decide +kernel
theorem dX9_keepings_35 : decode cX9_keepings 35 = .ok (.iaload, 1) := by decide +kernel
theorem dX9_keepings_36 : decode cX9_keepings 36 = .ok (.ifCond .lt 17, 3) := by decide +kernel
theorem dX9_keepings_39 : decode cX9_keepings 39 = .ok (.aload_n 0, 1) := by decide +kernel
theorem dX9_keepings_40 : decode cX9_keepings 40 = .ok (.getfield 79, 3) := by decide +kernel
theorem dX9_keepings_43 : decode cX9_keepings 43 = .ok (.iload_n 2, 1) := by decide +kernel
theorem dX9_keepings_44 : decode cX9_keepings 44 = .ok (.iaload, 1) := by decide +kernel
theorem dX9_keepings_45 : decode cX9_keepings 45 = .ok (.bipush 50, 2) := by decide +kernel
theorem dX9_keepings_47 : decode cX9_keepings 47 = .ok (.if_icmp .eq 6, 3) := by decide +kernel
theorem dX9_keepings_50 : decode cX9_keepings 50 = .ok (.bipush (-12), 2) := by decide +kernel
theorem dX9_keepings_52 : decode cX9_keepings 52 = .ok (.ireturn, 1) := by decide +kernel
theorem dX9_keepings_53 : decode cX9_keepings 53 = .ok (.iconst 0, 1) := by decide +kernel
theorem dX9_keepings_54 : decode cX9_keepings 54 = .ok (.istore 5, 2) := by decide +kernel
theorem dX9_keepings_56 : decode cX9_keepings 56 = .ok (.aload_n 0, 1) := by decide +kernel
theorem dX9_keepings_57 : decode cX9_keepings 57 = .ok (.getfield 79, 3) := by decide +kernel
theorem dX9_keepings_60 : decode cX9_keepings 60 = .ok (.iload_n 2, 1) := by decide +kernel
theorem dX9_keepings_61 : decode cX9_keepings 61 = .ok (.iaload, 1) := by decide +kernel
theorem dX9_keepings_62 : decode cX9_keepings 62 = .ok (.bipush 50, 2) := by decide +kernel
theorem dX9_keepings_64 : decode cX9_keepings 64 = .ok (.if_icmp .ne 11, 3) := by decide +kernel
theorem dX9_keepings_67 : decode cX9_keepings 67 = .ok (.iload_n 3, 1) := by decide +kernel
theorem dX9_keepings_68 : decode cX9_keepings 68 = .ok (.ifCond .lt 7, 3) := by decide +kernel
theorem dX9_keepings_71 : decode cX9_keepings 71 = .ok (.iconst 1, 1) := by decide +kernel
theorem dX9_keepings_72 : decode cX9_keepings 72 = .ok (.goto 4, 3) := by decide +kernel
theorem dX9_keepings_75 : decode cX9_keepings 75 = .ok (.iconst 0, 1) := by decide +kernel
theorem dX9_keepings_76 : decode cX9_keepings 76 = .ok (.istore 6, 2) := by decide +kernel
theorem dX9_keepings_78 : decode cX9_keepings 78 = .ok (.iload 6, 2) := by decide +kernel
theorem dX9_keepings_80 : decode cX9_keepings 80 = .ok (.ifCond .eq 98, 3) := by decide +kernel
theorem dX9_keepings_83 : decode cX9_keepings 83 = .ok (.iload 5, 2) := by decide +kernel
theorem dX9_keepings_85 : decode cX9_keepings 85 = .ok (.iload 4, 2) := by decide +kernel
theorem dX9_keepings_87 : decode cX9_keepings 87 = .ok (.if_icmp .ge 91, 3) := by decide +kernel
theorem dX9_keepings_90 : decode cX9_keepings 90 = .ok (.iload_n 3, 1) := by decide +kernel
theorem dX9_keepings_91 : decode cX9_keepings 91 = .ok (.aload_n 0, 1) := by decide +kernel
theorem dX9_keepings_92 : decode cX9_keepings 92 = .ok (.getfield 82, 3) := by decide +kernel
theorem dX9_keepings_95 : decode cX9_keepings 95 = .ok (.iload_n 2, 1) := by decide +kernel
theorem dX9_keepings_96 : decode cX9_keepings 96 = .ok (.iaload, 1) := by decide +kernel
theorem dX9_keepings_97 : decode cX9_keepings 97 = .ok (.iload 5, 2) := by decide +kernel
theorem dX9_keepings_99 : decode cX9_keepings 99 = .ok (.isub, 1) := by decide +kernel
theorem dX9_keepings_100 : decode cX9_keepings 100 = .ok (.if_icmp .ge 20, 3) := by decide +kernel
theorem dX9_keepings_103 : decode cX9_keepings 103 = .ok (.aload_n 0, 1) := by decide +kernel
theorem dX9_keepings_104 : decode cX9_keepings 104 = .ok (.getfield 85, 3) := by decide +kernel
theorem dX9_keepings_107 : decode cX9_keepings 107 = .ok (.bipush 60, 2) := by decide +kernel
theorem dX9_keepings_109 : decode cX9_keepings 109 = .ok (.iload_n 2, 1) := by decide +kernel
theorem dX9_keepings_110 : decode cX9_keepings 110 = .ok (.imul, 1) := by decide +kernel
theorem dX9_keepings_111 : decode cX9_keepings 111 = .ok (.iload_n 3, 1) := by decide +kernel
theorem dX9_keepings_112 : decode cX9_keepings 112 = .ok (.iadd, 1) := by decide +kernel
theorem dX9_keepings_113 : decode cX9_keepings 113 = .ok (.iload 5, 2) := by decide +kernel
theorem dX9_keepings_115 : decode cX9_keepings 115 = .ok (.iadd, 1) := by decide +kernel
theorem dX9_keepings_116 : decode cX9_keepings 116 = .ok (.laload, 1) := by decide +kernel
theorem dX9_keepings_117 : decode cX9_keepings 117 = .ok (.goto 6, 3) := by decide +kernel
theorem dX9_keepings_120 : decode cX9_keepings 120 = .ok (.ldc2_w 244, 3) := by decide +kernel
theorem dX9_keepings_123 : decode cX9_keepings 123 = .ok (.lstore 7, 2) := by decide +kernel
theorem dX9_keepings_125 : decode cX9_keepings 125 = .ok (.lload 7, 2) := by decide +kernel
theorem dX9_keepings_127 : decode cX9_keepings 127 = .ok (.ldc2_w 246, 3) := by decide +kernel
theorem dX9_keepings_130 : decode cX9_keepings 130 = .ok (.aload_n 0, 1) := by decide +kernel
theorem dX9_keepings_131 : decode cX9_keepings 131 = .ok (.getfield 99, 3) := by decide +kernel
theorem dX9_keepings_134 : decode cX9_keepings 134 = .ok (.iconst 1, 1) := by decide +kernel
theorem dX9_keepings_135 : decode cX9_keepings 135 = .ok (.isub, 1) := by decide +kernel
theorem dX9_keepings_136 : decode cX9_keepings 136 = .ok (.i2l, 1) := by decide +kernel
theorem dX9_keepings_137 : decode cX9_keepings 137 = .ok (.invokestatic 102, 3) := by decide +kernel
theorem dX9_keepings_140 : decode cX9_keepings 140 = .ok (.istore 6, 2) := by decide +kernel
theorem dX9_keepings_142 : decode cX9_keepings 142 = .ok (.iload 6, 2) := by decide +kernel
theorem dX9_keepings_144 : decode cX9_keepings 144 = .ok (.ifCond .eq 31, 3) := by decide +kernel
theorem dX9_keepings_147 : decode cX9_keepings 147 = .ok (.aload_n 0, 1) := by decide +kernel
theorem dX9_keepings_148 : decode cX9_keepings 148 = .ok (.getfield 46, 3) := by decide +kernel
theorem dX9_keepings_151 : decode cX9_keepings 151 = .ok (.iload_n 1, 1) := by decide +kernel
theorem dX9_keepings_152 : decode cX9_keepings 152 = .ok (.dup2, 1) := by decide +kernel
theorem dX9_keepings_153 : decode cX9_keepings 153 = .ok (.iaload, 1) := by decide +kernel
theorem dX9_keepings_154 : decode cX9_keepings 154 = .ok (.iconst 1, 1) := by decide +kernel
theorem dX9_keepings_155 : decode cX9_keepings 155 = .ok (.iadd, 1) := by decide +kernel
theorem dX9_keepings_156 : decode cX9_keepings 156 = .ok (.iastore, 1) := by decide +kernel
theorem dX9_keepings_157 : decode cX9_keepings 157 = .ok (.iinc 5 1, 3) := by decide +kernel
theorem dX9_keepings_160 : decode cX9_keepings 160 = .ok (.lload 7, 2) := by decide +kernel
theorem dX9_keepings_162 : decode cX9_keepings 162 = .ok (.lconst 0, 1) := by decide +kernel
theorem dX9_keepings_163 : decode cX9_keepings 163 = .ok (.lcmp, 1) := by decide +kernel
theorem dX9_keepings_164 : decode cX9_keepings 164 = .ok (.ifCond .lt 11, 3) := by decide +kernel
theorem dX9_keepings_167 : decode cX9_keepings 167 = .ok (.aload_n 0, 1) := by decide +kernel
theorem dX9_keepings_168 : decode cX9_keepings 168 = .ok (.iload_n 1, 1) := by decide +kernel
theorem dX9_keepings_169 : decode cX9_keepings 169 = .ok (.lload 7, 2) := by decide +kernel
theorem dX9_keepings_171 : decode cX9_keepings 171 = .ok (.l2i, 1) := by decide +kernel
theorem dX9_keepings_172 : decode cX9_keepings 172 = .ok (.invokevirtual 227, 3) := by decide +kernel
theorem dX9_keepings_175 : decode cX9_keepings 175 = .ok (.goto (-97), 3) := by decide +kernel
theorem dX9_keepings_178 : decode cX9_keepings 178 = .ok (.iload 5, 2) := by decide +kernel
theorem dX9_keepings_180 : decode cX9_keepings 180 = .ok (.ireturn, 1) := by decide +kernel
theorem dX9_led_0 : decode cX9_led 0 = .ok (.aload_n 0, 1) := by decide +kernel
theorem dX9_led_1 : decode cX9_led 1 = .ok (.iload_n 1, 1) := by decide +kernel
theorem dX9_led_2 : decode cX9_led 2 = .ok (.invokevirtual 186, 3) := by decide +kernel
theorem dX9_led_5 : decode cX9_led 5 = .ok (.ifCond .eq 39, 3) := by decide +kernel
theorem dX9_led_8 : decode cX9_led 8 = .ok (.iload_n 2, 1) := by decide +kernel
theorem dX9_led_9 : decode cX9_led 9 = .ok (.ifCond .lt 35, 3) := by decide +kernel
theorem dX9_led_12 : decode cX9_led 12 = .ok (.iload_n 2, 1) := by decide +kernel
theorem dX9_led_13 : decode cX9_led 13 = .ok (.aload_n 0, 1) := by decide +kernel
theorem dX9_led_14 : decode cX9_led 14 = .ok (.getfield 49, 3) := by decide +kernel
theorem dX9_led_17 : decode cX9_led 17 = .ok (.iload_n 1, 1) := by decide +kernel
theorem dX9_led_18 : decode cX9_led 18 = .ok (.iaload, 1) := by decide +kernel
theorem dX9_led_19 : decode cX9_led 19 = .ok (.if_icmp .ge 25, 3) := by decide +kernel
theorem dX9_led_22 : decode cX9_led 22 = .ok (.iload_n 2, 1) := by decide +kernel
theorem dX9_led_23 : decode cX9_led 23 = .ok (.sipush 200, 3) := by decide +kernel
theorem dX9_led_26 : decode cX9_led 26 = .ok (.if_icmp .ge 18, 3) := by decide +kernel
theorem dX9_led_29 : decode cX9_led 29 = .ok (.aload_n 0, 1) := by decide +kernel
theorem dX9_led_30 : decode cX9_led 30 = .ok (.getfield 52, 3) := by decide +kernel
theorem dX9_led_33 : decode cX9_led 33 = .ok (.sipush 200, 3) := by decide +kernel
theorem dX9_led_36 : decode cX9_led 36 = .ok (.iload_n 1, 1) := by decide +kernel
theorem dX9_led_37 : decode cX9_led 37 = .ok (.imul, 1) := by decide +kernel
theorem dX9_led_38 : decode cX9_led 38 = .ok (.iload_n 2, 1) := by decide +kernel
theorem dX9_led_39 : decode cX9_led 39 = .ok (.iadd, 1) := by decide +kernel
theorem dX9_led_40 : decode cX9_led 40 = .ok (.iaload, 1) := by decide +kernel
theorem dX9_led_41 : decode cX9_led 41 = .ok (.goto 4, 3) := by decide +kernel
theorem dX9_led_44 : decode cX9_led 44 = .ok (.iconst (-1), 1) := by decide +kernel
theorem dX9_led_45 : decode cX9_led 45 = .ok (.ireturn, 1) := by decide +kernel
theorem dX9_unequal_0 : decode cX9_unequal 0 = .ok (.aload_n 0, 1) := by decide +kernel
theorem dX9_unequal_1 : decode cX9_unequal 1 = .ok (.iload_n 1, 1) := by decide +kernel
theorem dX9_unequal_2 : decode cX9_unequal 2 = .ok (.invokevirtual 186, 3) := by decide +kernel
theorem dX9_unequal_5 : decode cX9_unequal 5 = .ok (.ifCond .ne 5, 3) := by decide +kernel
theorem dX9_unequal_8 : decode cX9_unequal 8 = .ok (.iconst (-1), 1) := by decide +kernel
theorem dX9_unequal_9 : decode cX9_unequal 9 = .ok (.ireturn, 1) := by decide +kernel
theorem dX9_unequal_10 : decode cX9_unequal 10 = .ok (.iconst 0, 1) := by decide +kernel
theorem dX9_unequal_11 : decode cX9_unequal 11 = .ok (.istore_n 2, 1) := by decide +kernel
theorem dX9_unequal_12 : decode cX9_unequal 12 = .ok (.iconst 0, 1) := by decide +kernel
theorem dX9_unequal_13 : decode cX9_unequal 13 = .ok (.istore_n 3, 1) := by decide +kernel
theorem dX9_unequal_14 : decode cX9_unequal 14 = .ok (.iload_n 3, 1) := by decide +kernel
theorem dX9_unequal_15 : decode cX9_unequal 15 = .ok (.aload_n 0, 1) := by decide +kernel
theorem dX9_unequal_16 : decode cX9_unequal 16 = .ok (.getfield 99, 3) := by decide +kernel
theorem dX9_unequal_19 : decode cX9_unequal 19 = .ok (.if_icmp .ge 44, 3) := by decide +kernel
theorem dX9_unequal_22 : decode cX9_unequal 22 = .ok (.iconst 0, 1) := by decide +kernel
theorem dX9_unequal_23 : decode cX9_unequal 23 = .ok (.istore 4, 2) := by decide +kernel
theorem dX9_unequal_25 : decode cX9_unequal 25 = .ok (.iload 4, 2) := by decide +kernel
theorem dX9_unequal_27 : decode cX9_unequal 27 = .ok (.iload_n 3, 1) := by decide +kernel
theorem dX9_unequal_28 : decode cX9_unequal 28 = .ok (.if_icmp .ge 29, 3) := by decide +kernel
theorem dX9_unequal_31 : decode cX9_unequal 31 = .ok (.iload_n 2, 1) := by decide +kernel
theorem dX9_unequal_32 : decode cX9_unequal 32 = .ok (.aload_n 0, 1) := by decide +kernel
theorem dX9_unequal_33 : decode cX9_unequal 33 = .ok (.iload_n 1, 1) := by decide +kernel
theorem dX9_unequal_34 : decode cX9_unequal 34 = .ok (.iload_n 3, 1) := by decide +kernel
theorem dX9_unequal_35 : decode cX9_unequal 35 = .ok (.invokevirtual 216, 3) := by decide +kernel
theorem dX9_unequal_38 : decode cX9_unequal 38 = .ok (.aload_n 0, 1) := by decide +kernel
theorem dX9_unequal_39 : decode cX9_unequal 39 = .ok (.iload_n 1, 1) := by decide +kernel
theorem dX9_unequal_40 : decode cX9_unequal 40 = .ok (.iload 4, 2) := by decide +kernel
theorem dX9_unequal_42 : decode cX9_unequal 42 = .ok (.invokevirtual 216, 3) := by decide +kernel
theorem dX9_unequal_45 : decode cX9_unequal 45 = .ok (.isub, 1) := by decide +kernel
theorem dX9_unequal_46 : decode cX9_unequal 46 = .ok (.invokestatic 248, 3) := by decide +kernel
theorem dX9_unequal_49 : decode cX9_unequal 49 = .ok (.iadd, 1) := by decide +kernel
theorem dX9_unequal_50 : decode cX9_unequal 50 = .ok (.istore_n 2, 1) := by decide +kernel
theorem dX9_unequal_51 : decode cX9_unequal 51 = .ok (.iinc 4 1, 3) := by decide +kernel
theorem dX9_unequal_54 : decode cX9_unequal 54 = .ok (.goto (-29), 3) := by decide +kernel
theorem dX9_unequal_57 : decode cX9_unequal 57 = .ok (.iinc 3 1, 3) := by decide +kernel
theorem dX9_unequal_60 : decode cX9_unequal 60 = .ok (.goto (-46), 3) := by decide +kernel
theorem dX9_unequal_63 : decode cX9_unequal 63 = .ok (.aload_n 0, 1) := by decide +kernel
theorem dX9_unequal_64 : decode cX9_unequal 64 = .ok (.getfield 99, 3) := by decide +kernel
theorem dX9_unequal_67 : decode cX9_unequal 67 = .ok (.ifCond .ne 7, 3) := by decide +kernel
theorem dX9_unequal_70 : decode cX9_unequal 70 = .ok (.iconst 0, 1) := by decide +kernel
theorem dX9_unequal_71 : decode cX9_unequal 71 = .ok (.goto 9, 3) := by decide +kernel
theorem dX9_unequal_74 : decode cX9_unequal 74 = .ok (.iload_n 2, 1) := by decide +kernel
theorem dX9_unequal_75 : decode cX9_unequal 75 = .ok (.aload_n 0, 1) := by decide +kernel
theorem dX9_unequal_76 : decode cX9_unequal 76 = .ok (.getfield 99, 3) := by decide +kernel
theorem dX9_unequal_79 : decode cX9_unequal 79 = .ok (.idiv, 1) := by decide +kernel
theorem dX9_unequal_80 : decode cX9_unequal 80 = .ok (.ireturn, 1) := by decide +kernel
theorem dX9_areTwo_0 : decode cX9_areTwo 0 = .ok (.iload_n 1, 1) := by decide +kernel
theorem dX9_areTwo_1 : decode cX9_areTwo 1 = .ok (.ifCond .lt 40, 3) := by decide +kernel
theorem dX9_areTwo_4 : decode cX9_areTwo 4 = .ok (.aload_n 0, 1) := by decide +kernel
theorem dX9_areTwo_5 : decode cX9_areTwo 5 = .ok (.iload_n 1, 1) := by decide +kernel
theorem dX9_areTwo_6 : decode cX9_areTwo 6 = .ok (.bipush 10, 2) := by decide +kernel
theorem dX9_areTwo_8 : decode cX9_areTwo 8 = .ok (.idiv, 1) := by decide +kernel
theorem dX9_areTwo_9 : decode cX9_areTwo 9 = .ok (.invokevirtual 186, 3) := by decide +kernel
theorem dX9_areTwo_12 : decode cX9_areTwo 12 = .ok (.ifCond .eq 29, 3) := by decide +kernel
theorem dX9_areTwo_15 : decode cX9_areTwo 15 = .ok (.aload_n 0, 1) := by decide +kernel
theorem dX9_areTwo_16 : decode cX9_areTwo 16 = .ok (.iload_n 1, 1) := by decide +kernel
theorem dX9_areTwo_17 : decode cX9_areTwo 17 = .ok (.bipush 10, 2) := by decide +kernel
theorem dX9_areTwo_19 : decode cX9_areTwo 19 = .ok (.irem, 1) := by decide +kernel
theorem dX9_areTwo_20 : decode cX9_areTwo 20 = .ok (.invokevirtual 186, 3) := by decide +kernel
theorem dX9_areTwo_23 : decode cX9_areTwo 23 = .ok (.ifCond .eq 18, 3) := by decide +kernel
theorem dX9_areTwo_26 : decode cX9_areTwo 26 = .ok (.iload_n 1, 1) := by decide +kernel
theorem dX9_areTwo_27 : decode cX9_areTwo 27 = .ok (.bipush 10, 2) := by decide +kernel
theorem dX9_areTwo_29 : decode cX9_areTwo 29 = .ok (.idiv, 1) := by decide +kernel
theorem dX9_areTwo_30 : decode cX9_areTwo 30 = .ok (.iload_n 1, 1) := by decide +kernel
theorem dX9_areTwo_31 : decode cX9_areTwo 31 = .ok (.bipush 10, 2) := by decide +kernel
theorem dX9_areTwo_33 : decode cX9_areTwo 33 = .ok (.irem, 1) := by decide +kernel
theorem dX9_areTwo_34 : decode cX9_areTwo 34 = .ok (.if_icmp .eq 7, 3) := by decide +kernel
theorem dX9_areTwo_37 : decode cX9_areTwo 37 = .ok (.iconst 1, 1) := by decide +kernel
theorem dX9_areTwo_38 : decode cX9_areTwo 38 = .ok (.goto 4, 3) := by decide +kernel
theorem dX9_areTwo_41 : decode cX9_areTwo 41 = .ok (.iconst 0, 1) := by decide +kernel
theorem dX9_areTwo_42 : decode cX9_areTwo 42 = .ok (.ireturn, 1) := by decide +kernel
theorem dX9_unlikeOf_0 : decode cX9_unlikeOf 0 = .ok (.iconst 0, 1) := by decide +kernel
theorem dX9_unlikeOf_1 : decode cX9_unlikeOf 1 = .ok (.istore_n 3, 1) := by decide +kernel
theorem dX9_unlikeOf_2 : decode cX9_unlikeOf 2 = .ok (.iconst 0, 1) := by decide +kernel
theorem dX9_unlikeOf_3 : decode cX9_unlikeOf 3 = .ok (.istore 4, 2) := by decide +kernel
theorem dX9_unlikeOf_5 : decode cX9_unlikeOf 5 = .ok (.iload 4, 2) := by decide +kernel
theorem dX9_unlikeOf_7 : decode cX9_unlikeOf 7 = .ok (.aload_n 0, 1) := by decide +kernel
theorem dX9_unlikeOf_8 : decode cX9_unlikeOf 8 = .ok (.getfield 99, 3) := by decide +kernel
theorem dX9_unlikeOf_11 : decode cX9_unlikeOf 11 = .ok (.if_icmp .ge 30, 3) := by decide +kernel
theorem dX9_unlikeOf_14 : decode cX9_unlikeOf 14 = .ok (.iload_n 3, 1) := by decide +kernel
theorem dX9_unlikeOf_15 : decode cX9_unlikeOf 15 = .ok (.aload_n 0, 1) := by decide +kernel
theorem dX9_unlikeOf_16 : decode cX9_unlikeOf 16 = .ok (.iload_n 1, 1) := by decide +kernel
theorem dX9_unlikeOf_17 : decode cX9_unlikeOf 17 = .ok (.iload 4, 2) := by decide +kernel
theorem dX9_unlikeOf_19 : decode cX9_unlikeOf 19 = .ok (.invokevirtual 216, 3) := by decide +kernel
theorem dX9_unlikeOf_22 : decode cX9_unlikeOf 22 = .ok (.aload_n 0, 1) := by decide +kernel
theorem dX9_unlikeOf_23 : decode cX9_unlikeOf 23 = .ok (.iload_n 2, 1) := by decide +kernel
theorem dX9_unlikeOf_24 : decode cX9_unlikeOf 24 = .ok (.iload 4, 2) := by decide +kernel
theorem dX9_unlikeOf_26 : decode cX9_unlikeOf 26 = .ok (.invokevirtual 216, 3) := by decide +kernel
theorem dX9_unlikeOf_29 : decode cX9_unlikeOf 29 = .ok (.isub, 1) := by decide +kernel
theorem dX9_unlikeOf_30 : decode cX9_unlikeOf 30 = .ok (.invokestatic 248, 3) := by decide +kernel
theorem dX9_unlikeOf_33 : decode cX9_unlikeOf 33 = .ok (.iadd, 1) := by decide +kernel
theorem dX9_unlikeOf_34 : decode cX9_unlikeOf 34 = .ok (.istore_n 3, 1) := by decide +kernel
theorem dX9_unlikeOf_35 : decode cX9_unlikeOf 35 = .ok (.iinc 4 1, 3) := by decide +kernel
theorem dX9_unlikeOf_38 : decode cX9_unlikeOf 38 = .ok (.goto (-33), 3) := by decide +kernel
theorem dX9_unlikeOf_41 : decode cX9_unlikeOf 41 = .ok (.iload_n 3, 1) := by decide +kernel
theorem dX9_unlikeOf_42 : decode cX9_unlikeOf 42 = .ok (.iconst 2, 1) := by decide +kernel
theorem dX9_unlikeOf_43 : decode cX9_unlikeOf 43 = .ok (.idiv, 1) := by decide +kernel
theorem dX9_unlikeOf_44 : decode cX9_unlikeOf 44 = .ok (.ireturn, 1) := by decide +kernel
theorem dX9_unlike_0 : decode cX9_unlike 0 = .ok (.aload_n 0, 1) := by decide +kernel
theorem dX9_unlike_1 : decode cX9_unlike 1 = .ok (.iload_n 1, 1) := by decide +kernel
theorem dX9_unlike_2 : decode cX9_unlike 2 = .ok (.invokevirtual 251, 3) := by decide +kernel
theorem dX9_unlike_5 : decode cX9_unlike 5 = .ok (.ifCond .eq 18, 3) := by decide +kernel
theorem dX9_unlike_8 : decode cX9_unlike 8 = .ok (.aload_n 0, 1) := by decide +kernel
theorem dX9_unlike_9 : decode cX9_unlike 9 = .ok (.iload_n 1, 1) := by decide +kernel
theorem dX9_unlike_10 : decode cX9_unlike 10 = .ok (.bipush 10, 2) := by decide +kernel
theorem dX9_unlike_12 : decode cX9_unlike 12 = .ok (.idiv, 1) := by decide +kernel
theorem dX9_unlike_13 : decode cX9_unlike 13 = .ok (.iload_n 1, 1) := by decide +kernel
theorem dX9_unlike_14 : decode cX9_unlike 14 = .ok (.bipush 10, 2) := by decide +kernel
theorem dX9_unlike_16 : decode cX9_unlike 16 = .ok (.irem, 1) := by decide +kernel
theorem dX9_unlike_17 : decode cX9_unlike 17 = .ok (.invokevirtual 254, 3) := by decide +kernel
theorem dX9_unlike_20 : decode cX9_unlike 20 = .ok (.goto 4, 3) := by decide +kernel
theorem dX9_unlike_23 : decode cX9_unlike 23 = .ok (.iconst (-1), 1) := by decide +kernel
theorem dX9_unlike_24 : decode cX9_unlike 24 = .ok (.ireturn, 1) := by decide +kernel
theorem dX9_luckOf_0 : decode cX9_luckOf 0 = .ok (.iconst 0, 1) := by decide +kernel
theorem dX9_luckOf_1 : decode cX9_luckOf 1 = .ok (.istore_n 3, 1) := by decide +kernel
theorem dX9_luckOf_2 : decode cX9_luckOf 2 = .ok (.iconst 0, 1) := by decide +kernel
theorem dX9_luckOf_3 : decode cX9_luckOf 3 = .ok (.istore 4, 2) := by decide +kernel
theorem dX9_luckOf_5 : decode cX9_luckOf 5 = .ok (.iconst 0, 1) := by decide +kernel
theorem dX9_luckOf_6 : decode cX9_luckOf 6 = .ok (.istore 5, 2) := by decide +kernel
theorem dX9_luckOf_8 : decode cX9_luckOf 8 = .ok (.iload 5, 2) := by decide +kernel
theorem dX9_luckOf_10 : decode cX9_luckOf 10 = .ok (.aload_n 0, 1) := by decide +kernel
theorem dX9_luckOf_11 : decode cX9_luckOf 11 = .ok (.getfield 174, 3) := by decide +kernel
theorem dX9_luckOf_14 : decode cX9_luckOf 14 = .ok (.if_icmp .ge 71, 3) := by decide +kernel
theorem dX9_luckOf_17 : decode cX9_luckOf 17 = .ok (.iconst 0, 1) := by decide +kernel
theorem dX9_luckOf_18 : decode cX9_luckOf 18 = .ok (.istore 6, 2) := by decide +kernel
theorem dX9_luckOf_20 : decode cX9_luckOf 20 = .ok (.iload 6, 2) := by decide +kernel
theorem dX9_luckOf_22 : decode cX9_luckOf 22 = .ok (.iload 5, 2) := by decide +kernel
theorem dX9_luckOf_24 : decode cX9_luckOf 24 = .ok (.if_icmp .ge 55, 3) := by decide +kernel
theorem dX9_luckOf_27 : decode cX9_luckOf 27 = .ok (.aload_n 0, 1) := by decide +kernel
theorem dX9_luckOf_28 : decode cX9_luckOf 28 = .ok (.getfield 34, 3) := by decide +kernel
theorem dX9_luckOf_31 : decode cX9_luckOf 31 = .ok (.iload 5, 2) := by decide +kernel
theorem dX9_luckOf_33 : decode cX9_luckOf 33 = .ok (.iaload, 1) := by decide +kernel
theorem dX9_luckOf_34 : decode cX9_luckOf 34 = .ok (.iload_n 1, 1) := by decide +kernel
theorem dX9_luckOf_35 : decode cX9_luckOf 35 = .ok (.if_icmp .ne 38, 3) := by decide +kernel
theorem dX9_luckOf_38 : decode cX9_luckOf 38 = .ok (.aload_n 0, 1) := by decide +kernel
theorem dX9_luckOf_39 : decode cX9_luckOf 39 = .ok (.getfield 34, 3) := by decide +kernel
theorem dX9_luckOf_42 : decode cX9_luckOf 42 = .ok (.iload 6, 2) := by decide +kernel
theorem dX9_luckOf_44 : decode cX9_luckOf 44 = .ok (.iaload, 1) := by decide +kernel
theorem dX9_luckOf_45 : decode cX9_luckOf 45 = .ok (.iload_n 1, 1) := by decide +kernel
theorem dX9_luckOf_46 : decode cX9_luckOf 46 = .ok (.if_icmp .ne 27, 3) := by decide +kernel
theorem dX9_luckOf_49 : decode cX9_luckOf 49 = .ok (.iload_n 3, 1) := by decide +kernel
theorem dX9_luckOf_50 : decode cX9_luckOf 50 = .ok (.aload_n 0, 1) := by decide +kernel
theorem dX9_luckOf_51 : decode cX9_luckOf 51 = .ok (.iload 5, 2) := by decide +kernel
theorem dX9_luckOf_53 : decode cX9_luckOf 53 = .ok (.iload_n 2, 1) := by decide +kernel
theorem dX9_luckOf_54 : decode cX9_luckOf 54 = .ok (.invokevirtual 216, 3) := by decide +kernel
theorem dX9_luckOf_57 : decode cX9_luckOf 57 = .ok (.aload_n 0, 1) := by decide +kernel
theorem dX9_luckOf_58 : decode cX9_luckOf 58 = .ok (.iload 6, 2) := by decide +kernel
theorem dX9_luckOf_60 : decode cX9_luckOf 60 = .ok (.iload_n 2, 1) := by decide +kernel
theorem dX9_luckOf_61 : decode cX9_luckOf 61 = .ok (.invokevirtual 216, 3) := by decide +kernel
theorem dX9_luckOf_64 : decode cX9_luckOf 64 = .ok (.isub, 1) := by decide +kernel
theorem dX9_luckOf_65 : decode cX9_luckOf 65 = .ok (.invokestatic 248, 3) := by decide +kernel
theorem dX9_luckOf_68 : decode cX9_luckOf 68 = .ok (.iadd, 1) := by decide +kernel
theorem dX9_luckOf_69 : decode cX9_luckOf 69 = .ok (.istore_n 3, 1) := by decide +kernel
theorem dX9_luckOf_70 : decode cX9_luckOf 70 = .ok (.iinc 4 1, 3) := by decide +kernel
theorem dX9_luckOf_73 : decode cX9_luckOf 73 = .ok (.iinc 6 1, 3) := by decide +kernel
theorem dX9_luckOf_76 : decode cX9_luckOf 76 = .ok (.goto (-56), 3) := by decide +kernel
theorem dX9_luckOf_79 : decode cX9_luckOf 79 = .ok (.iinc 5 1, 3) := by decide +kernel
theorem dX9_luckOf_82 : decode cX9_luckOf 82 = .ok (.goto (-74), 3) := by decide +kernel
theorem dX9_luckOf_85 : decode cX9_luckOf 85 = .ok (.iload 4, 2) := by decide +kernel
theorem dX9_luckOf_87 : decode cX9_luckOf 87 = .ok (.ifCond .ne 8, 3) := by decide +kernel
theorem dX9_luckOf_90 : decode cX9_luckOf 90 = .ok (.bipush (-2), 2) := by decide +kernel
theorem dX9_luckOf_92 : decode cX9_luckOf 92 = .ok (.goto 7, 3) := by decide +kernel
theorem dX9_luckOf_95 : decode cX9_luckOf 95 = .ok (.iload_n 3, 1) := by decide +kernel
theorem dX9_luckOf_96 : decode cX9_luckOf 96 = .ok (.iload 4, 2) := by decide +kernel
theorem dX9_luckOf_98 : decode cX9_luckOf 98 = .ok (.idiv, 1) := by decide +kernel
theorem dX9_luckOf_99 : decode cX9_luckOf 99 = .ok (.ireturn, 1) := by decide +kernel
theorem dX9_luck_0 : decode cX9_luck 0 = .ok (.aload_n 0, 1) := by decide +kernel
theorem dX9_luck_1 : decode cX9_luck 1 = .ok (.iload_n 1, 1) := by decide +kernel
theorem dX9_luck_2 : decode cX9_luck 2 = .ok (.invokevirtual 177, 3) := by decide +kernel
theorem dX9_luck_5 : decode cX9_luck 5 = .ok (.ifCond .eq 16, 3) := by decide +kernel
theorem dX9_luck_8 : decode cX9_luck 8 = .ok (.iload_n 2, 1) := by decide +kernel
theorem dX9_luck_9 : decode cX9_luck 9 = .ok (.iconst (-1), 1) := by decide +kernel
theorem dX9_luck_10 : decode cX9_luck 10 = .ok (.if_icmp .eq 13, 3) := by decide +kernel
theorem dX9_luck_13 : decode cX9_luck 13 = .ok (.aload_n 0, 1) := by decide +kernel
theorem dX9_luck_14 : decode cX9_luck 14 = .ok (.iload_n 2, 1) := by decide +kernel
theorem dX9_luck_15 : decode cX9_luck 15 = .ok (.invokevirtual 111, 3) := by decide +kernel
theorem dX9_luck_18 : decode cX9_luck 18 = .ok (.ifCond .ne 5, 3) := by decide +kernel
theorem dX9_luck_21 : decode cX9_luck 21 = .ok (.iconst (-1), 1) := by decide +kernel
theorem dX9_luck_22 : decode cX9_luck 22 = .ok (.ireturn, 1) := by decide +kernel
theorem dX9_luck_23 : decode cX9_luck 23 = .ok (.iload_n 2, 1) := by decide +kernel
theorem dX9_luck_24 : decode cX9_luck 24 = .ok (.iconst (-1), 1) := by decide +kernel
theorem dX9_luck_25 : decode cX9_luck 25 = .ok (.if_icmp .eq 10, 3) := by decide +kernel
theorem dX9_luck_28 : decode cX9_luck 28 = .ok (.aload_n 0, 1) := by decide +kernel
theorem dX9_luck_29 : decode cX9_luck 29 = .ok (.iload_n 1, 1) := by decide +kernel
theorem dX9_luck_30 : decode cX9_luck 30 = .ok (.iload_n 2, 1) := by decide +kernel
theorem dX9_luck_31 : decode cX9_luck 31 = .ok (.invokevirtual 257, 3) := by decide +kernel
theorem dX9_luck_34 : decode cX9_luck 34 = .ok (.ireturn, 1) := by decide +kernel
theorem dX9_luck_35 : decode cX9_luck 35 = .ok (.iconst 0, 1) := by decide +kernel
theorem dX9_luck_36 : decode cX9_luck 36 = .ok (.istore_n 3, 1) := by decide +kernel
theorem dX9_luck_37 : decode cX9_luck 37 = .ok (.iconst 0, 1) := by decide +kernel
theorem dX9_luck_38 : decode cX9_luck 38 = .ok (.istore 4, 2) := by decide +kernel
theorem dX9_luck_40 : decode cX9_luck 40 = .ok (.iload 4, 2) := by decide +kernel
theorem dX9_luck_42 : decode cX9_luck 42 = .ok (.aload_n 0, 1) := by decide +kernel
theorem dX9_luck_43 : decode cX9_luck 43 = .ok (.getfield 99, 3) := by decide +kernel
theorem dX9_luck_46 : decode cX9_luck 46 = .ok (.if_icmp .ge 33, 3) := by decide +kernel
theorem dX9_luck_49 : decode cX9_luck 49 = .ok (.aload_n 0, 1) := by decide +kernel
theorem dX9_luck_50 : decode cX9_luck 50 = .ok (.iload_n 1, 1) := by decide +kernel
theorem dX9_luck_51 : decode cX9_luck 51 = .ok (.iload 4, 2) := by decide +kernel
theorem dX9_luck_53 : decode cX9_luck 53 = .ok (.invokevirtual 257, 3) := by decide +kernel
theorem dX9_luck_56 : decode cX9_luck 56 = .ok (.istore 5, 2) := by decide +kernel
theorem dX9_luck_58 : decode cX9_luck 58 = .ok (.iload 5, 2) := by decide +kernel
theorem dX9_luck_60 : decode cX9_luck 60 = .ok (.bipush (-2), 2) := by decide +kernel
theorem dX9_luck_62 : decode cX9_luck 62 = .ok (.if_icmp .ne 6, 3) := by decide +kernel
theorem dX9_luck_65 : decode cX9_luck 65 = .ok (.bipush (-2), 2) := by decide +kernel
theorem dX9_luck_67 : decode cX9_luck 67 = .ok (.ireturn, 1) := by decide +kernel
theorem dX9_luck_68 : decode cX9_luck 68 = .ok (.iload_n 3, 1) := by decide +kernel
theorem dX9_luck_69 : decode cX9_luck 69 = .ok (.iload 5, 2) := by decide +kernel
theorem dX9_luck_71 : decode cX9_luck 71 = .ok (.iadd, 1) := by decide +kernel
theorem dX9_luck_72 : decode cX9_luck 72 = .ok (.istore_n 3, 1) := by decide +kernel
theorem dX9_luck_73 : decode cX9_luck 73 = .ok (.iinc 4 1, 3) := by decide +kernel
theorem dX9_luck_76 : decode cX9_luck 76 = .ok (.goto (-36), 3) := by decide +kernel
theorem dX9_luck_79 : decode cX9_luck 79 = .ok (.aload_n 0, 1) := by decide +kernel
theorem dX9_luck_80 : decode cX9_luck 80 = .ok (.getfield 99, 3) := by decide +kernel
theorem dX9_luck_83 : decode cX9_luck 83 = .ok (.ifCond .ne 8, 3) := by decide +kernel
theorem dX9_luck_86 : decode cX9_luck 86 = .ok (.bipush (-2), 2) := by decide +kernel
theorem dX9_luck_88 : decode cX9_luck 88 = .ok (.goto 9, 3) := by decide +kernel
theorem dX9_luck_91 : decode cX9_luck 91 = .ok (.iload_n 3, 1) := by decide +kernel
theorem dX9_luck_92 : decode cX9_luck 92 = .ok (.aload_n 0, 1) := by decide +kernel
theorem dX9_luck_93 : decode cX9_luck 93 = .ok (.getfield 99, 3) := by decide +kernel
theorem dX9_luck_96 : decode cX9_luck 96 = .ok (.idiv, 1) := by decide +kernel
theorem dX9_luck_97 : decode cX9_luck 97 = .ok (.ireturn, 1) := by decide +kernel
theorem dX9_findPairs_0 : decode cX9_findPairs 0 = .ok (.aload_n 0, 1) := by decide +kernel
theorem dX9_findPairs_1 : decode cX9_findPairs 1 = .ok (.iconst 0, 1) := by decide +kernel
theorem dX9_findPairs_2 : decode cX9_findPairs 2 = .ok (.putfield 260, 3) := by decide +kernel
theorem dX9_findPairs_5 : decode cX9_findPairs 5 = .ok (.aload_n 0, 1) := by decide +kernel
theorem dX9_findPairs_6 : decode cX9_findPairs 6 = .ok (.iconst 0, 1) := by decide +kernel
theorem dX9_findPairs_7 : decode cX9_findPairs 7 = .ok (.putfield 263, 3) := by decide +kernel
theorem dX9_findPairs_10 : decode cX9_findPairs 10 = .ok (.aload_n 0, 1) := by decide +kernel
theorem dX9_findPairs_11 : decode cX9_findPairs 11 = .ok (.iconst 0, 1) := by decide +kernel
theorem dX9_findPairs_12 : decode cX9_findPairs 12 = .ok (.putfield 266, 3) := by decide +kernel
theorem dX9_findPairs_15 : decode cX9_findPairs 15 = .ok (.iconst 0, 1) := by decide +kernel
theorem dX9_findPairs_16 : decode cX9_findPairs 16 = .ok (.istore_n 2, 1) := by decide +kernel
theorem dX9_findPairs_17 : decode cX9_findPairs 17 = .ok (.iload_n 2, 1) := by decide +kernel
theorem dX9_findPairs_18 : decode cX9_findPairs 18 = .ok (.aload_n 0, 1) := by decide +kernel
theorem dX9_findPairs_19 : decode cX9_findPairs 19 = .ok (.getfield 99, 3) := by decide +kernel
theorem dX9_findPairs_22 : decode cX9_findPairs 22 = .ok (.if_icmp .ge 197, 3) := by decide +kernel
theorem dX9_findPairs_25 : decode cX9_findPairs 25 = .ok (.iconst 0, 1) := by decide +kernel
theorem dX9_findPairs_26 : decode cX9_findPairs 26 = .ok (.istore_n 3, 1) := by decide +kernel
theorem dX9_findPairs_27 : decode cX9_findPairs 27 = .ok (.iload_n 3, 1) := by decide +kernel
theorem dX9_findPairs_28 : decode cX9_findPairs 28 = .ok (.iload_n 2, 1) := by decide +kernel
theorem dX9_findPairs_29 : decode cX9_findPairs 29 = .ok (.if_icmp .ge 184, 3) := by decide +kernel
theorem dX9_findPairs_32 : decode cX9_findPairs 32 = .ok (.iconst 0, 1) := by decide +kernel
theorem dX9_findPairs_33 : decode cX9_findPairs 33 = .ok (.istore 4, 2) := by decide +kernel
theorem dX9_findPairs_35 : decode cX9_findPairs 35 = .ok (.iconst 0, 1) := by decide +kernel
theorem dX9_findPairs_36 : decode cX9_findPairs 36 = .ok (.istore 5, 2) := by decide +kernel
theorem dX9_findPairs_38 : decode cX9_findPairs 38 = .ok (.iconst 0, 1) := by decide +kernel
theorem dX9_findPairs_39 : decode cX9_findPairs 39 = .ok (.istore 6, 2) := by decide +kernel
theorem dX9_findPairs_41 : decode cX9_findPairs 41 = .ok (.iload 6, 2) := by decide +kernel
theorem dX9_findPairs_43 : decode cX9_findPairs 43 = .ok (.aload_n 0, 1) := by decide +kernel
theorem dX9_findPairs_44 : decode cX9_findPairs 44 = .ok (.getfield 174, 3) := by decide +kernel
theorem dX9_findPairs_47 : decode cX9_findPairs 47 = .ok (.if_icmp .ge 109, 3) := by decide +kernel
theorem dX9_findPairs_50 : decode cX9_findPairs 50 = .ok (.aload_n 0, 1) := by decide +kernel
theorem dX9_findPairs_51 : decode cX9_findPairs 51 = .ok (.getfield 9, 3) := by decide +kernel
theorem dX9_findPairs_54 : decode cX9_findPairs 54 = .ok (.iload_n 2, 1) := by decide +kernel
theorem dX9_findPairs_55 : decode cX9_findPairs 55 = .ok (.iaload, 1) := by decide +kernel
theorem dX9_findPairs_56 : decode cX9_findPairs 56 = .ok (.aload_n 0, 1) := by decide +kernel
theorem dX9_findPairs_57 : decode cX9_findPairs 57 = .ok (.getfield 9, 3) := by decide +kernel
theorem dX9_findPairs_60 : decode cX9_findPairs 60 = .ok (.iload_n 3, 1) := by decide +kernel
theorem dX9_findPairs_61 : decode cX9_findPairs 61 = .ok (.iaload, 1) := by decide +kernel
theorem dX9_findPairs_62 : decode cX9_findPairs 62 = .ok (.if_icmp .eq 94, 3) := by decide +kernel
theorem dX9_findPairs_65 : decode cX9_findPairs 65 = .ok (.iload_n 1, 1) := by decide +kernel
theorem dX9_findPairs_66 : decode cX9_findPairs 66 = .ok (.iload 6, 2) := by decide +kernel
theorem dX9_findPairs_68 : decode cX9_findPairs 68 = .ok (.ishr, 1) := by decide +kernel
theorem dX9_findPairs_69 : decode cX9_findPairs 69 = .ok (.iconst 1, 1) := by decide +kernel
theorem dX9_findPairs_70 : decode cX9_findPairs 70 = .ok (.iand, 1) := by decide +kernel
theorem dX9_findPairs_71 : decode cX9_findPairs 71 = .ok (.iconst 1, 1) := by decide +kernel
theorem dX9_findPairs_72 : decode cX9_findPairs 72 = .ok (.if_icmp .ne 78, 3) := by decide +kernel
theorem dX9_findPairs_75 : decode cX9_findPairs 75 = .ok (.aload_n 0, 1) := by decide +kernel
theorem dX9_findPairs_76 : decode cX9_findPairs 76 = .ok (.iload 6, 2) := by decide +kernel
theorem dX9_findPairs_78 : decode cX9_findPairs 78 = .ok (.iload_n 2, 1) := by decide +kernel
theorem dX9_findPairs_79 : decode cX9_findPairs 79 = .ok (.invokevirtual 191, 3) := by decide +kernel
theorem dX9_findPairs_82 : decode cX9_findPairs 82 = .ok (.aload_n 0, 1) := by decide +kernel
theorem dX9_findPairs_83 : decode cX9_findPairs 83 = .ok (.iload 6, 2) := by decide +kernel
theorem dX9_findPairs_85 : decode cX9_findPairs 85 = .ok (.iload_n 3, 1) := by decide +kernel
theorem dX9_findPairs_86 : decode cX9_findPairs 86 = .ok (.invokevirtual 191, 3) := by decide +kernel
theorem dX9_findPairs_89 : decode cX9_findPairs 89 = .ok (.if_icmp .eq 61, 3) := by decide +kernel
theorem dX9_findPairs_92 : decode cX9_findPairs 92 = .ok (.iinc 5 1, 3) := by decide +kernel
theorem dX9_findPairs_95 : decode cX9_findPairs 95 = .ok (.iload 4, 2) := by decide +kernel
theorem dX9_findPairs_97 : decode cX9_findPairs 97 = .ok (.aload_n 0, 1) := by decide +kernel
theorem dX9_findPairs_98 : decode cX9_findPairs 98 = .ok (.getfield 9, 3) := by decide +kernel
theorem dX9_findPairs_101 : decode cX9_findPairs 101 = .ok (.iload_n 2, 1) := by decide +kernel
theorem dX9_findPairs_102 : decode cX9_findPairs 102 = .ok (.iaload, 1) := by decide +kernel
theorem dX9_findPairs_103 : decode cX9_findPairs 103 = .ok (.aload_n 0, 1) := by decide +kernel
theorem dX9_findPairs_104 : decode cX9_findPairs 104 = .ok (.getfield 9, 3) := by decide +kernel
