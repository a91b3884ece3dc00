theorem dX8_odds_35 : decode cX8_odds 35 = .ok (.ifCond .lt 9, 3) := by decide +kernel
theorem dX8_odds_38 : decode cX8_odds 38 = .ok (.iload 4, 2) := by decide +kernel
theorem dX8_odds_40 : decode cX8_odds 40 = .ok (.iconst 1, 1) := by decide +kernel
theorem dX8_odds_41 : decode cX8_odds 41 = .ok (.if_icmp .le 5, 3) := by decide +kernel
theorem dX8_odds_44 : decode cX8_odds 44 = .ok (.iconst (-1), 1) := by decide +kernel
theorem dX8_odds_45 : decode cX8_odds 45 = .ok (.ireturn, 1) := by decide +kernel
theorem dX8_odds_46 : decode cX8_odds 46 = .ok (.aload_n 0, 1) := by decide +kernel
theorem dX8_odds_47 : decode cX8_odds 47 = .ok (.getfield 10, 3) := by decide +kernel
theorem dX8_odds_50 : decode cX8_odds 50 = .ok (.getfield 88, 3) := by decide +kernel
theorem dX8_odds_53 : decode cX8_odds 53 = .ok (.iconst 4, 1) := by decide +kernel
theorem dX8_odds_54 : decode cX8_odds 54 = .ok (.if_icmp .le 6, 3) := by decide +kernel
theorem dX8_odds_57 : decode cX8_odds 57 = .ok (.bipush (-4), 2) := by decide +kernel
theorem dX8_odds_59 : decode cX8_odds 59 = .ok (.ireturn, 1) := by decide +kernel
theorem dX8_odds_60 : decode cX8_odds 60 = .ok (.aload_n 0, 1) := by decide +kernel
theorem dX8_odds_61 : decode cX8_odds 61 = .ok (.getfield 70, 3) := by decide +kernel
theorem dX8_odds_64 : decode cX8_odds 64 = .ok (.aload 5, 2) := by decide +kernel
theorem dX8_odds_66 : decode cX8_odds 66 = .ok (.iload_n 2, 1) := by decide +kernel
theorem dX8_odds_67 : decode cX8_odds 67 = .ok (.iload_n 3, 1) := by decide +kernel
theorem dX8_odds_68 : decode cX8_odds 68 = .ok (.iload 4, 2) := by decide +kernel
theorem dX8_odds_70 : decode cX8_odds 70 = .ok (.invokevirtual 234, 3) := by decide +kernel
theorem dX8_odds_73 : decode cX8_odds 73 = .ok (.ireturn, 1) := by decide +kernel
theorem dX8_after_0 : decode cX8_after 0 = .ok (.aload_n 0, 1) := by decide +kernel
theorem dX8_after_1 : decode cX8_after 1 = .ok (.iload_n 1, 1) := by decide +kernel
theorem dX8_after_2 : decode cX8_after 2 = .ok (.invokevirtual 147, 3) := by decide +kernel
theorem dX8_after_5 : decode cX8_after 5 = .ok (.astore_n 2, 1) := by decide +kernel
theorem dX8_after_6 : decode cX8_after 6 = .ok (.aload_n 2, 1) := by decide +kernel
theorem dX8_after_7 : decode cX8_after 7 = .ok (.ifnonnull 5, 3) := by decide +kernel
theorem dX8_after_10 : decode cX8_after 10 = .ok (.iconst (-1), 1) := by decide +kernel
theorem dX8_after_11 : decode cX8_after 11 = .ok (.ireturn, 1) := by decide +kernel
theorem dX8_after_12 : decode cX8_after 12 = .ok (.aload_n 2, 1) := by decide +kernel
theorem dX8_after_13 : decode cX8_after 13 = .ok (.getfield 158, 3) := by decide +kernel
theorem dX8_after_16 : decode cX8_after 16 = .ok (.ifCond .ne 6, 3) := by decide +kernel
theorem dX8_after_19 : decode cX8_after 19 = .ok (.bipush (-2), 2) := by decide +kernel
theorem dX8_after_21 : decode cX8_after 21 = .ok (.ireturn, 1) := by decide +kernel
theorem dX8_after_22 : decode cX8_after 22 = .ok (.aload_n 2, 1) := by decide +kernel
theorem dX8_after_23 : decode cX8_after 23 = .ok (.getfield 158, 3) := by decide +kernel
theorem dX8_after_26 : decode cX8_after 26 = .ok (.sipush 200, 3) := by decide +kernel
theorem dX8_after_29 : decode cX8_after 29 = .ok (.if_icmp .le 6, 3) := by decide +kernel
theorem dX8_after_32 : decode cX8_after 32 = .ok (.bipush (-5), 2) := by decide +kernel
theorem dX8_after_34 : decode cX8_after 34 = .ok (.ireturn, 1) := by decide +kernel
theorem dX8_after_35 : decode cX8_after 35 = .ok (.aload_n 2, 1) := by decide +kernel
theorem dX8_after_36 : decode cX8_after 36 = .ok (.aload_n 0, 1) := by decide +kernel
theorem dX8_after_37 : decode cX8_after 37 = .ok (.getfield 78, 3) := by decide +kernel
theorem dX8_after_40 : decode cX8_after 40 = .ok (.invokevirtual 238, 3) := by decide +kernel
theorem dX8_after_43 : decode cX8_after 43 = .ok (.ireturn, 1) := by decide +kernel
theorem dX8_shop_0 : decode cX8_shop 0 = .ok (.aload_n 0, 1) := by decide +kernel
theorem dX8_shop_1 : decode cX8_shop 1 = .ok (.iload_n 1, 1) := by decide +kernel
theorem dX8_shop_2 : decode cX8_shop 2 = .ok (.invokevirtual 147, 3) := by decide +kernel
theorem dX8_shop_5 : decode cX8_shop 5 = .ok (.astore_n 3, 1) := by decide +kernel
theorem dX8_shop_6 : decode cX8_shop 6 = .ok (.aload_n 3, 1) := by decide +kernel
theorem dX8_shop_7 : decode cX8_shop 7 = .ok (.ifnull 13, 3) := by decide +kernel
theorem dX8_shop_10 : decode cX8_shop 10 = .ok (.iload_n 2, 1) := by decide +kernel
theorem dX8_shop_11 : decode cX8_shop 11 = .ok (.ifCond .lt 9, 3) := by decide +kernel
theorem dX8_shop_14 : decode cX8_shop 14 = .ok (.iload_n 2, 1) := by decide +kernel
theorem dX8_shop_15 : decode cX8_shop 15 = .ok (.bipush 9, 2) := by decide +kernel
theorem dX8_shop_17 : decode cX8_shop 17 = .ok (.if_icmp .le 5, 3) := by decide +kernel
theorem dX8_shop_20 : decode cX8_shop 20 = .ok (.iconst (-1), 1) := by decide +kernel
theorem dX8_shop_21 : decode cX8_shop 21 = .ok (.ireturn, 1) := by decide +kernel
theorem dX8_shop_22 : decode cX8_shop 22 = .ok (.aload_n 3, 1) := by decide +kernel
theorem dX8_shop_23 : decode cX8_shop 23 = .ok (.getfield 242, 3) := by decide +kernel
theorem dX8_shop_26 : decode cX8_shop 26 = .ok (.istore 4, 2) := by decide +kernel
theorem dX8_shop_28 : decode cX8_shop 28 = .ok (.aload_n 3, 1) := by decide +kernel
theorem dX8_shop_29 : decode cX8_shop 29 = .ok (.iload_n 2, 1) := by decide +kernel
theorem dX8_shop_30 : decode cX8_shop 30 = .ok (.putfield 242, 3) := by decide +kernel
theorem dX8_shop_33 : decode cX8_shop 33 = .ok (.iload 4, 2) := by decide +kernel
theorem dX8_shop_35 : decode cX8_shop 35 = .ok (.ireturn, 1) := by decide +kernel
theorem dX8_chart_0 : decode cX8_chart 0 = .ok (.aload_n 0, 1) := by decide +kernel
theorem dX8_chart_1 : decode cX8_chart 1 = .ok (.getfield 10, 3) := by decide +kernel
theorem dX8_chart_4 : decode cX8_chart 4 = .ok (.iload_n 1, 1) := by decide +kernel
theorem dX8_chart_5 : decode cX8_chart 5 = .ok (.invokevirtual 95, 3) := by decide +kernel
theorem dX8_chart_8 : decode cX8_chart 8 = .ok (.ifCond .eq 12, 3) := by decide +kernel
theorem dX8_chart_11 : decode cX8_chart 11 = .ok (.iload_n 2, 1) := by decide +kernel
theorem dX8_chart_12 : decode cX8_chart 12 = .ok (.ifCond .lt 8, 3) := by decide +kernel
theorem dX8_chart_15 : decode cX8_chart 15 = .ok (.iload_n 2, 1) := by decide +kernel
theorem dX8_chart_16 : decode cX8_chart 16 = .ok (.iconst 1, 1) := by decide +kernel
theorem dX8_chart_17 : decode cX8_chart 17 = .ok (.if_icmp .le 5, 3) := by decide +kernel
theorem dX8_chart_20 : decode cX8_chart 20 = .ok (.iconst (-1), 1) := by decide +kernel
theorem dX8_chart_21 : decode cX8_chart 21 = .ok (.ireturn, 1) := by decide +kernel
theorem dX8_chart_22 : decode cX8_chart 22 = .ok (.iconst 0, 1) := by decide +kernel
theorem dX8_chart_23 : decode cX8_chart 23 = .ok (.istore_n 3, 1) := by decide +kernel
theorem dX8_chart_24 : decode cX8_chart 24 = .ok (.iload_n 3, 1) := by decide +kernel
theorem dX8_chart_25 : decode cX8_chart 25 = .ok (.aload_n 0, 1) := by decide +kernel
theorem dX8_chart_26 : decode cX8_chart 26 = .ok (.getfield 10, 3) := by decide +kernel
theorem dX8_chart_29 : decode cX8_chart 29 = .ok (.getfield 88, 3) := by decide +kernel
theorem dX8_chart_32 : decode cX8_chart 32 = .ok (.if_icmp .ge 20, 3) := by decide +kernel
theorem dX8_chart_35 : decode cX8_chart 35 = .ok (.aload_n 0, 1) := by decide +kernel
theorem dX8_chart_36 : decode cX8_chart 36 = .ok (.getfield 78, 3) := by decide +kernel
theorem dX8_chart_39 : decode cX8_chart 39 = .ok (.iload_n 3, 1) := by decide +kernel
theorem dX8_chart_40 : decode cX8_chart 40 = .ok (.aload_n 0, 1) := by decide +kernel
theorem dX8_chart_41 : decode cX8_chart 41 = .ok (.iload_n 3, 1) := by decide +kernel
theorem dX8_chart_42 : decode cX8_chart 42 = .ok (.invokevirtual 245, 3) := by decide +kernel
theorem dX8_chart_45 : decode cX8_chart 45 = .ok (.iastore, 1) := by decide +kernel
theorem dX8_chart_46 : decode cX8_chart 46 = .ok (.iinc 3 1, 3) := by decide +kernel
theorem dX8_chart_49 : decode cX8_chart 49 = .ok (.goto (-25), 3) := by decide +kernel
theorem dX8_chart_52 : decode cX8_chart 52 = .ok (.aload_n 0, 1) := by decide +kernel
theorem dX8_chart_53 : decode cX8_chart 53 = .ok (.getfield 78, 3) := by decide +kernel
theorem dX8_chart_56 : decode cX8_chart 56 = .ok (.aload_n 0, 1) := by decide +kernel
theorem dX8_chart_57 : decode cX8_chart 57 = .ok (.getfield 10, 3) := by decide +kernel
theorem dX8_chart_60 : decode cX8_chart 60 = .ok (.getfield 88, 3) := by decide +kernel
theorem dX8_chart_63 : decode cX8_chart 63 = .ok (.aload_n 0, 1) := by decide +kernel
theorem dX8_chart_64 : decode cX8_chart 64 = .ok (.getfield 81, 3) := by decide +kernel
theorem dX8_chart_67 : decode cX8_chart 67 = .ok (.invokestatic 248, 3) := by decide +kernel
theorem dX8_chart_70 : decode cX8_chart 70 = .ok (.iload_n 2, 1) := by decide +kernel
theorem dX8_chart_71 : decode cX8_chart 71 = .ok (.ifCond .ne 12, 3) := by decide +kernel
theorem dX8_chart_74 : decode cX8_chart 74 = .ok (.aload_n 0, 1) := by decide +kernel
theorem dX8_chart_75 : decode cX8_chart 75 = .ok (.getfield 81, 3) := by decide +kernel
theorem dX8_chart_78 : decode cX8_chart 78 = .ok (.iload_n 1, 1) := by decide +kernel
theorem dX8_chart_79 : decode cX8_chart 79 = .ok (.iaload, 1) := by decide +kernel
theorem dX8_chart_80 : decode cX8_chart 80 = .ok (.goto 14, 3) := by decide +kernel
theorem dX8_chart_83 : decode cX8_chart 83 = .ok (.aload_n 0, 1) := by decide +kernel
theorem dX8_chart_84 : decode cX8_chart 84 = .ok (.getfield 78, 3) := by decide +kernel
theorem dX8_chart_87 : decode cX8_chart 87 = .ok (.aload_n 0, 1) := by decide +kernel
theorem dX8_chart_88 : decode cX8_chart 88 = .ok (.getfield 81, 3) := by decide +kernel
theorem dX8_chart_91 : decode cX8_chart 91 = .ok (.iload_n 1, 1) := by decide +kernel
theorem dX8_chart_92 : decode cX8_chart 92 = .ok (.iaload, 1) := by decide +kernel
theorem dX8_chart_93 : decode cX8_chart 93 = .ok (.iaload, 1) := by decide +kernel
theorem dX8_chart_94 : decode cX8_chart 94 = .ok (.ireturn, 1) := by decide +kernel
theorem dX8_toldOf_0 : decode cX8_toldOf 0 = .ok (.iconst 0, 1) := by decide +kernel
theorem dX8_toldOf_1 : decode cX8_toldOf 1 = .ok (.istore_n 2, 1) := by decide +kernel
theorem dX8_toldOf_2 : decode cX8_toldOf 2 = .ok (.iconst 0, 1) := by decide +kernel
theorem dX8_toldOf_3 : decode cX8_toldOf 3 = .ok (.istore_n 3, 1) := by decide +kernel
theorem dX8_toldOf_4 : decode cX8_toldOf 4 = .ok (.iload_n 3, 1) := by decide +kernel
theorem dX8_toldOf_5 : decode cX8_toldOf 5 = .ok (.aload_n 0, 1) := by decide +kernel
theorem dX8_toldOf_6 : decode cX8_toldOf 6 = .ok (.getfield 128, 3) := by decide +kernel
theorem dX8_toldOf_9 : decode cX8_toldOf 9 = .ok (.if_icmp .ge 37, 3) := by decide +kernel
theorem dX8_toldOf_12 : decode cX8_toldOf 12 = .ok (.aload_n 0, 1) := by decide +kernel
theorem dX8_toldOf_13 : decode cX8_toldOf 13 = .ok (.iload_n 3, 1) := by decide +kernel
theorem dX8_toldOf_14 : decode cX8_toldOf 14 = .ok (.invokevirtual 147, 3) := by decide +kernel
theorem dX8_toldOf_17 : decode cX8_toldOf 17 = .ok (.astore 4, 2) := by decide +kernel
theorem dX8_toldOf_19 : decode cX8_toldOf 19 = .ok (.aload 4, 2) := by decide +kernel
theorem dX8_toldOf_21 : decode cX8_toldOf 21 = .ok (.ifnull 19, 3) := by decide +kernel
theorem dX8_toldOf_24 : decode cX8_toldOf 24 = .ok (.iload_n 2, 1) := by decide +kernel
theorem dX8_toldOf_25 : decode cX8_toldOf 25 = .ok (.aload 4, 2) := by decide +kernel
theorem dX8_toldOf_27 : decode cX8_toldOf 27 = .ok (.getfield 242, 3) := by decide +kernel
theorem dX8_toldOf_30 : decode cX8_toldOf 30 = .ok (.aload 4, 2) := by decide +kernel
theorem dX8_toldOf_32 : decode cX8_toldOf 32 = .ok (.getfield 167, 3) := by decide +kernel
theorem dX8_toldOf_35 : decode cX8_toldOf 35 = .ok (.iload_n 1, 1) := by decide +kernel
theorem dX8_toldOf_36 : decode cX8_toldOf 36 = .ok (.iaload, 1) := by decide +kernel
theorem dX8_toldOf_37 : decode cX8_toldOf 37 = .ok (.imul, 1) := by decide +kernel
theorem dX8_toldOf_38 : decode cX8_toldOf 38 = .ok (.iadd, 1) := by decide +kernel
theorem dX8_toldOf_39 : decode cX8_toldOf 39 = .ok (.istore_n 2, 1) := by decide +kernel
theorem dX8_toldOf_40 : decode cX8_toldOf 40 = .ok (.iinc 3 1, 3) := by decide +kernel
theorem dX8_toldOf_43 : decode cX8_toldOf 43 = .ok (.goto (-39), 3) := by decide +kernel
theorem dX8_toldOf_46 : decode cX8_toldOf 46 = .ok (.iload_n 2, 1) := by decide +kernel
theorem dX8_toldOf_47 : decode cX8_toldOf 47 = .ok (.ireturn, 1) := by decide +kernel
theorem dX8_crate_0 : decode cX8_crate 0 = .ok (.aload_n 0, 1) := by decide +kernel
theorem dX8_crate_1 : decode cX8_crate 1 = .ok (.iload_n 1, 1) := by decide +kernel
theorem dX8_crate_2 : decode cX8_crate 2 = .ok (.invokevirtual 147, 3) := by decide +kernel
theorem dX8_crate_5 : decode cX8_crate 5 = .ok (.astore 4, 2) := by decide +kernel
theorem dX8_crate_7 : decode cX8_crate 7 = .ok (.aload 4, 2) := by decide +kernel
theorem dX8_crate_9 : decode cX8_crate 9 = .ok (.ifnull 26, 3) := by decide +kernel
theorem dX8_crate_12 : decode cX8_crate 12 = .ok (.aload_n 0, 1) := by decide +kernel
theorem dX8_crate_13 : decode cX8_crate 13 = .ok (.getfield 10, 3) := by decide +kernel
theorem dX8_crate_16 : decode cX8_crate 16 = .ok (.iload_n 2, 1) := by decide +kernel
theorem dX8_crate_17 : decode cX8_crate 17 = .ok (.invokevirtual 95, 3) := by decide +kernel
theorem dX8_crate_20 : decode cX8_crate 20 = .ok (.ifCond .eq 15, 3) := by decide +kernel
theorem dX8_crate_23 : decode cX8_crate 23 = .ok (.iload_n 3, 1) := by decide +kernel
theorem dX8_crate_24 : decode cX8_crate 24 = .ok (.iconst 1, 1) := by decide +kernel
theorem dX8_crate_25 : decode cX8_crate 25 = .ok (.if_icmp .lt 10, 3) := by decide +kernel
theorem dX8_crate_28 : decode cX8_crate 28 = .ok (.iload_n 3, 1) := by decide +kernel
theorem dX8_crate_29 : decode cX8_crate 29 = .ok (.sipush 9999, 3) := by decide +kernel
theorem dX8_crate_32 : decode cX8_crate 32 = .ok (.if_icmp .le 5, 3) := by decide +kernel
theorem dX8_crate_35 : decode cX8_crate 35 = .ok (.iconst (-1), 1) := by decide +kernel
theorem dX8_crate_36 : decode cX8_crate 36 = .ok (.ireturn, 1) := by decide +kernel
theorem dX8_crate_37 : decode cX8_crate 37 = .ok (.aload 4, 2) := by decide +kernel
theorem dX8_crate_39 : decode cX8_crate 39 = .ok (.getfield 167, 3) := by decide +kernel
theorem dX8_crate_42 : decode cX8_crate 42 = .ok (.iload_n 2, 1) := by decide +kernel
theorem dX8_crate_43 : decode cX8_crate 43 = .ok (.iaload, 1) := by decide +kernel
theorem dX8_crate_44 : decode cX8_crate 44 = .ok (.istore 5, 2) := by decide +kernel
theorem dX8_crate_46 : decode cX8_crate 46 = .ok (.aload 4, 2) := by decide +kernel
theorem dX8_crate_48 : decode cX8_crate 48 = .ok (.getfield 167, 3) := by decide +kernel
theorem dX8_crate_51 : decode cX8_crate 51 = .ok (.iload_n 2, 1) := by decide +kernel
theorem dX8_crate_52 : decode cX8_crate 52 = .ok (.iload 5, 2) := by decide +kernel
theorem dX8_crate_54 : decode cX8_crate 54 = .ok (.iload_n 3, 1) := by decide +kernel
theorem dX8_crate_55 : decode cX8_crate 55 = .ok (.iadd, 1) := by decide +kernel
theorem dX8_crate_56 : decode cX8_crate 56 = .ok (.ldc 252, 2) := by decide +kernel
theorem dX8_crate_58 : decode cX8_crate 58 = .ok (.invokestatic 253, 3) := by decide +kernel
theorem dX8_crate_61 : decode cX8_crate 61 = .ok (.iastore, 1) := by decide +kernel
theorem dX8_crate_62 : decode cX8_crate 62 = .ok (.aload_n 0, 1) := by decide +kernel
theorem dX8_crate_63 : decode cX8_crate 63 = .ok (.getfield 38, 3) := by decide +kernel
theorem dX8_crate_66 : decode cX8_crate 66 = .ok (.iload_n 1, 1) := by decide +kernel
theorem dX8_crate_67 : decode cX8_crate 67 = .ok (.iload_n 2, 1) := by decide +kernel
theorem dX8_crate_68 : decode cX8_crate 68 = .ok (.iload 5, 2) := by decide +kernel
theorem dX8_crate_70 : decode cX8_crate 70 = .ok (.aload 4, 2) := by decide +kernel
theorem dX8_crate_72 : decode cX8_crate 72 = .ok (.getfield 167, 3) := by decide +kernel
theorem dX8_crate_75 : decode cX8_crate 75 = .ok (.iload_n 2, 1) := by decide +kernel
theorem dX8_crate_76 : decode cX8_crate 76 = .ok (.iaload, 1) := by decide +kernel
theorem dX8_crate_77 : decode cX8_crate 77 = .ok (.invokevirtual 99, 3) := by decide +kernel
theorem dX8_crate_80 : decode cX8_crate 80 = .ok (.aload 4, 2) := by decide +kernel
theorem dX8_crate_82 : decode cX8_crate 82 = .ok (.getfield 167, 3) := by decide +kernel
theorem dX8_crate_85 : decode cX8_crate 85 = .ok (.iload_n 2, 1) := by decide +kernel
theorem dX8_crate_86 : decode cX8_crate 86 = .ok (.iaload, 1) := by decide +kernel
theorem dX8_crate_87 : decode cX8_crate 87 = .ok (.ireturn, 1) := by decide +kernel
theorem dX8_found_0 : decode cX8_found 0 = .ok (.aload_n 0, 1) := by decide +kernel
theorem dX8_found_1 : decode cX8_found 1 = .ok (.iload_n 1, 1) := by decide +kernel
theorem dX8_found_2 : decode cX8_found 2 = .ok (.invokevirtual 147, 3) := by decide +kernel
theorem dX8_found_5 : decode cX8_found 5 = .ok (.astore_n 3, 1) := by decide +kernel
theorem dX8_found_6 : decode cX8_found 6 = .ok (.aload_n 3, 1) := by decide +kernel
theorem dX8_found_7 : decode cX8_found 7 = .ok (.ifnull 12, 3) := by decide +kernel
theorem dX8_found_10 : decode cX8_found 10 = .ok (.iload_n 2, 1) := by decide +kernel
theorem dX8_found_11 : decode cX8_found 11 = .ok (.ifCond .lt 8, 3) := by decide +kernel
theorem dX8_found_14 : decode cX8_found 14 = .ok (.iload_n 2, 1) := by decide +kernel
theorem dX8_found_15 : decode cX8_found 15 = .ok (.iconst 1, 1) := by decide +kernel
theorem dX8_found_16 : decode cX8_found 16 = .ok (.if_icmp .le 5, 3) := by decide +kernel
theorem dX8_found_19 : decode cX8_found 19 = .ok (.iconst (-1), 1) := by decide +kernel
theorem dX8_found_20 : decode cX8_found 20 = .ok (.ireturn, 1) := by decide +kernel
theorem dX8_found_21 : decode cX8_found 21 = .ok (.aload_n 3, 1) := by decide +kernel
theorem dX8_found_22 : decode cX8_found 22 = .ok (.invokevirtual 256, 3) := by decide +kernel
theorem dX8_found_25 : decode cX8_found 25 = .ok (.istore 4, 2) := by decide +kernel
theorem dX8_found_27 : decode cX8_found 27 = .ok (.aload_n 0, 1) := by decide +kernel
theorem dX8_found_28 : decode cX8_found 28 = .ok (.getfield 10, 3) := by decide +kernel
theorem dX8_found_31 : decode cX8_found 31 = .ok (.invokevirtual 259, 3) := by decide +kernel
theorem dX8_found_34 : decode cX8_found 34 = .ok (.istore 5, 2) := by decide +kernel
theorem dX8_found_36 : decode cX8_found 36 = .ok (.iload 4, 2) := by decide +kernel
theorem dX8_found_38 : decode cX8_found 38 = .ok (.ifCond .eq 8, 3) := by decide +kernel
theorem dX8_found_41 : decode cX8_found 41 = .ok (.iload 5, 2) := by decide +kernel
theorem dX8_found_43 : decode cX8_found 43 = .ok (.ifCond .ne 6, 3) := by decide +kernel
theorem dX8_found_46 : decode cX8_found 46 = .ok (.bipush (-2), 2) := by decide +kernel
theorem dX8_found_48 : decode cX8_found 48 = .ok (.ireturn, 1) := by decide +kernel
theorem dX8_found_49 : decode cX8_found 49 = .ok (.iconst 0, 1) := by decide +kernel
theorem dX8_found_50 : decode cX8_found 50 = .ok (.istore 6, 2) := by decide +kernel
theorem dX8_found_52 : decode cX8_found 52 = .ok (.iconst 0, 1) := by decide +kernel
theorem dX8_found_53 : decode cX8_found 53 = .ok (.istore 7, 2) := by decide +kernel
theorem dX8_found_55 : decode cX8_found 55 = .ok (.iconst 0, 1) := by decide +kernel
theorem dX8_found_56 : decode cX8_found 56 = .ok (.istore 8, 2) := by decide +kernel
theorem dX8_found_58 : decode cX8_found 58 = .ok (.iload 8, 2) := by decide +kernel
theorem dX8_found_60 : decode cX8_found 60 = .ok (.aload_n 0, 1) := by decide +kernel
theorem dX8_found_61 : decode cX8_found 61 = .ok (.getfield 10, 3) := by decide +kernel
theorem dX8_found_64 : decode cX8_found 64 = .ok (.getfield 88, 3) := by decide +kernel
theorem dX8_found_67 : decode cX8_found 67 = .ok (.if_icmp .ge 59, 3) := by decide +kernel
theorem dX8_found_70 : decode cX8_found 70 = .ok (.aload_n 3, 1) := by decide +kernel
theorem dX8_found_71 : decode cX8_found 71 = .ok (.getfield 167, 3) := by decide +kernel
theorem dX8_found_74 : decode cX8_found 74 = .ok (.iload 8, 2) := by decide +kernel
theorem dX8_found_76 : decode cX8_found 76 = .ok (.iaload, 1) := by decide +kernel
theorem dX8_found_77 : decode cX8_found 77 = .ok (.iload 4, 2) := by decide +kernel
theorem dX8_found_79 : decode cX8_found 79 = .ok (.i2l, 1) := by decide +kernel
theorem dX8_found_80 : decode cX8_found 80 = .ok (.aload_n 0, 1) := by decide +kernel
theorem dX8_found_81 : decode cX8_found 81 = .ok (.getfield 10, 3) := by decide +kernel
theorem dX8_found_84 : decode cX8_found 84 = .ok (.getfield 92, 3) := by decide +kernel
theorem dX8_found_87 : decode cX8_found 87 = .ok (.iload 8, 2) := by decide +kernel
theorem dX8_found_89 : decode cX8_found 89 = .ok (.iaload, 1) := by decide +kernel
theorem dX8_found_90 : decode cX8_found 90 = .ok (.i2l, 1) := by decide +kernel
theorem dX8_found_91 : decode cX8_found 91 = .ok (.lmul, 1) := by decide +kernel
theorem dX8_found_92 : decode cX8_found 92 = .ok (.iload 5, 2) := by decide +kernel
theorem dX8_found_94 : decode cX8_found 94 = .ok (.i2l, 1) := by decide +kernel
theorem dX8_found_95 : decode cX8_found 95 = .ok (.ldiv, 1) := by decide +kernel
theorem dX8_found_96 : decode cX8_found 96 = .ok (.l2i, 1) := by decide +kernel
theorem dX8_found_97 : decode cX8_found 97 = .ok (.isub, 1) := by decide +kernel
theorem dX8_found_98 : decode cX8_found 98 = .ok (.istore 9, 2) := by decide +kernel
theorem dX8_found_100 : decode cX8_found 100 = .ok (.iload 8, 2) := by decide +kernel
theorem dX8_found_102 : decode cX8_found 102 = .ok (.ifCond .eq 10, 3) := by decide +kernel
theorem dX8_found_105 : decode cX8_found 105 = .ok (.iload 9, 2) := by decide +kernel
theorem dX8_found_107 : decode cX8_found 107 = .ok (.iload 7, 2) := by decide +kernel
theorem dX8_found_109 : decode cX8_found 109 = .ok (.if_icmp .le 11, 3) := by decide +kernel
theorem dX8_found_112 : decode cX8_found 112 = .ok (.iload 8, 2) := by decide +kernel
theorem dX8_found_114 : decode cX8_found 114 = .ok (.istore 6, 2) := by decide +kernel
theorem dX8_found_116 : decode cX8_found 116 = .ok (.iload 9, 2) := by decide +kernel
theorem dX8_found_118 : decode cX8_found 118 = .ok (.istore 7, 2) := by decide +kernel
theorem dX8_found_120 : decode cX8_found 120 = .ok (.iinc 8 1, 3) := by decide +kernel
theorem dX8_found_123 : decode cX8_found 123 = .ok (.goto (-65), 3) := by decide +kernel
theorem dX8_found_126 : decode cX8_found 126 = .ok (.iload_n 2, 1) := by decide +kernel
theorem dX8_found_127 : decode cX8_found 127 = .ok (.ifCond .ne 8, 3) := by decide +kernel
theorem dX8_found_130 : decode cX8_found 130 = .ok (.iload 6, 2) := by decide +kernel
theorem dX8_found_132 : decode cX8_found 132 = .ok (.goto 5, 3) := by decide +kernel
theorem dX8_found_135 : decode cX8_found 135 = .ok (.iload 7, 2) := by decide +kernel
theorem dX8_found_137 : decode cX8_found 137 = .ok (.ireturn, 1) := by decide +kernel
theorem dX8_house_0 : decode cX8_house 0 = .ok (.aload_n 0, 1) := by decide +kernel
theorem dX8_house_1 : decode cX8_house 1 = .ok (.iload_n 1, 1) := by decide +kernel
theorem dX8_house_2 : decode cX8_house 2 = .ok (.invokevirtual 147, 3) := by decide +kernel
theorem dX8_house_5 : decode cX8_house 5 = .ok (.astore 5, 2) := by decide +kernel
theorem dX8_house_7 : decode cX8_house 7 = .ok (.aload_n 0, 1) := by decide +kernel
theorem dX8_house_8 : decode cX8_house 8 = .ok (.getfield 10, 3) := by decide +kernel
theorem dX8_house_11 : decode cX8_house 11 = .ok (.getfield 88, 3) := by decide +kernel
theorem dX8_house_14 : decode cX8_house 14 = .ok (.istore 6, 2) := by decide +kernel
theorem dX8_house_16 : decode cX8_house 16 = .ok (.aload 5, 2) := by decide +kernel
theorem dX8_house_18 : decode cX8_house 18 = .ok (.ifnull 37, 3) := by decide +kernel
theorem dX8_house_21 : decode cX8_house 21 = .ok (.iload_n 2, 1) := by decide +kernel
theorem dX8_house_22 : decode cX8_house 22 = .ok (.ifCond .lt 33, 3) := by decide +kernel
theorem dX8_house_25 : decode cX8_house 25 = .ok (.iload_n 2, 1) := by decide +kernel
theorem dX8_house_26 : decode cX8_house 26 = .ok (.iconst 1, 1) := by decide +kernel
theorem dX8_house_27 : decode cX8_house 27 = .ok (.iload 6, 2) := by decide +kernel
theorem dX8_house_29 : decode cX8_house 29 = .ok (.ishl, 1) := by decide +kernel
theorem dX8_house_30 : decode cX8_house 30 = .ok (.if_icmp .ge 25, 3) := by decide +kernel
theorem dX8_house_33 : decode cX8_house 33 = .ok (.iload_n 3, 1) := by decide +kernel
theorem dX8_house_34 : decode cX8_house 34 = .ok (.iconst 1, 1) := by decide +kernel
theorem dX8_house_35 : decode cX8_house 35 = .ok (.if_icmp .lt 20, 3) := by decide +kernel
theorem dX8_house_38 : decode cX8_house 38 = .ok (.iload_n 3, 1) := by decide +kernel
theorem dX8_house_39 : decode cX8_house 39 = .ok (.iload 6, 2) := by decide +kernel
theorem dX8_house_41 : decode cX8_house 41 = .ok (.if_icmp .gt 14, 3) := by decide +kernel
theorem dX8_house_44 : decode cX8_house 44 = .ok (.iload 4, 2) := by decide +kernel
theorem dX8_house_46 : decode cX8_house 46 = .ok (.ifCond .lt 9, 3) := by decide +kernel
theorem dX8_house_49 : decode cX8_house 49 = .ok (.iload 4, 2) := by decide +kernel
theorem dX8_house_51 : decode cX8_house 51 = .ok (.iconst 3, 1) := by decide +kernel
theorem dX8_house_52 : decode cX8_house 52 = .ok (.if_icmp .le 7, 3) := by decide +kernel
theorem dX8_house_55 : decode cX8_house 55 = .ok (.ldc_w 262, 3) := by decide +kernel
theorem dX8_house_58 : decode cX8_house 58 = .ok (.ireturn, 1) := by decide +kernel
theorem dX8_house_59 : decode cX8_house 59 = .ok (.aload 5, 2) := by decide +kernel
theorem dX8_house_61 : decode cX8_house 61 = .ok (.iload_n 3, 1) := by decide +kernel
theorem dX8_house_62 : decode cX8_house 62 = .ok (.invokevirtual 263, 3) := by decide +kernel
theorem dX8_house_65 : decode cX8_house 65 = .ok (.istore 7, 2) := by decide +kernel
theorem dX8_house_67 : decode cX8_house 67 = .ok (.iload_n 2, 1) := by decide +kernel
theorem dX8_house_68 : decode cX8_house 68 = .ok (.iload 7, 2) := by decide +kernel
theorem dX8_house_70 : decode cX8_house 70 = .ok (.iand, 1) := by decide +kernel
theorem dX8_house_71 : decode cX8_house 71 = .ok (.invokestatic 266, 3) := by decide +kernel
theorem dX8_house_74 : decode cX8_house 74 = .ok (.istore 8, 2) := by decide +kernel
theorem dX8_house_76 : decode cX8_house 76 = .ok (.iload_n 2, 1) := by decide +kernel
theorem dX8_house_77 : decode cX8_house 77 = .ok (.invokestatic 266, 3) := by decide +kernel
theorem dX8_house_80 : decode cX8_house 80 = .ok (.iload_n 3, 1) := by decide +kernel
theorem dX8_house_81 : decode cX8_house 81 = .ok (.imul, 1) := by decide +kernel
theorem dX8_house_82 : decode cX8_house 82 = .ok (.sipush 1000, 3) := by decide +kernel
theorem dX8_house_85 : decode cX8_house 85 = .ok (.imul, 1) := by decide +kernel
theorem dX8_house_86 : decode cX8_house 86 = .ok (.iload 6, 2) := by decide +kernel
theorem dX8_house_88 : decode cX8_house 88 = .ok (.idiv, 1) := by decide +kernel
theorem dX8_house_89 : decode cX8_house 89 = .ok (.istore 9, 2) := by decide +kernel
theorem dX8_house_91 : decode cX8_house 91 = .ok (.iload 4, 2) := by decide +kernel
theorem dX8_house_93 : decode cX8_house 93 = .ok (.tableswitch 43 0 2 #[27, 30, 33], 27) := by decide +kernel
theorem dX8_house_120 : decode cX8_house 120 = .ok (.iload 8, 2) := by decide +kernel
theorem dX8_house_122 : decode cX8_house 122 = .ok (.ireturn, 1) := by decide +kernel
theorem dX8_house_123 : decode cX8_house 123 = .ok (.iload 9, 2) := by decide +kernel
theorem dX8_house_125 : decode cX8_house 125 = .ok (.ireturn, 1) := by decide +kernel
theorem dX8_house_126 : decode cX8_house 126 = .ok (.iload 8, 2) := by decide +kernel
theorem dX8_house_128 : decode cX8_house 128 = .ok (.sipush 1000, 3) := by decide +kernel
theorem dX8_house_131 : decode cX8_house 131 = .ok (.imul, 1) := by decide +kernel
theorem dX8_house_132 : decode cX8_house 132 = .ok (.iload 9, 2) := by decide +kernel
theorem dX8_house_134 : decode cX8_house 134 = .ok (.isub, 1) := by decide +kernel
theorem dX8_house_135 : decode cX8_house 135 = .ok (.ireturn, 1) := by decide +kernel
theorem dX8_house_136 : decode cX8_house 136 = .ok (.iload_n 2, 1) := by decide +kernel
theorem dX8_house_137 : decode cX8_house 137 = .ok (.iload 7, 2) := by decide +kernel
theorem dX8_house_139 : decode cX8_house 139 = .ok (.iconst (-1), 1) := by decide +kernel
theorem dX8_house_140 : decode cX8_house 140 = .ok (.ixor, 1) := by decide +kernel
theorem dX8_house_141 : decode cX8_house 141 = .ok (.iand, 1) := by decide +kernel
theorem dX8_house_142 : decode cX8_house 142 = .ok (.ireturn, 1) := by decide +kernel
theorem dX8_said_0 : decode cX8_said 0 = .ok (.aload_n 0, 1) := by decide +kernel
theorem dX8_said_1 : decode cX8_said 1 = .ok (.iload_n 1, 1) := by decide +kernel
theorem dX8_said_2 : decode cX8_said 2 = .ok (.invokevirtual 124, 3) := by decide +kernel
theorem dX8_said_5 : decode cX8_said 5 = .ok (.astore_n 3, 1) := by decide +kernel
theorem dX8_said_6 : decode cX8_said 6 = .ok (.aload_n 0, 1) := by decide +kernel
theorem dX8_said_7 : decode cX8_said 7 = .ok (.iload_n 2, 1) := by decide +kernel
theorem dX8_said_8 : decode cX8_said 8 = .ok (.invokevirtual 147, 3) := by decide +kernel
theorem dX8_said_11 : decode cX8_said 11 = .ok (.astore 4, 2) := by decide +kernel
theorem dX8_said_13 : decode cX8_said 13 = .ok (.aload_n 3, 1) := by decide +kernel
theorem dX8_said_14 : decode cX8_said 14 = .ok (.ifnull 13, 3) := by decide +kernel
theorem dX8_said_17 : decode cX8_said 17 = .ok (.aload 4, 2) := by decide +kernel
theorem dX8_said_19 : decode cX8_said 19 = .ok (.ifnonnull 10, 3) := by decide +kernel
theorem dX8_said_22 : decode cX8_said 22 = .ok (.iload_n 2, 1) := by decide +kernel
theorem dX8_said_23 : decode cX8_said 23 = .ok (.iconst (-1), 1) := by decide +kernel
theorem dX8_said_24 : decode cX8_said 24 = .ok (.if_icmp .eq 5, 3) := by decide +kernel
theorem dX8_said_27 : decode cX8_said 27 = .ok (.iconst (-1), 1) := by decide +kernel
theorem dX8_said_28 : decode cX8_said 28 = .ok (.ireturn, 1) := by decide +kernel
theorem dX8_said_29 : decode cX8_said 29 = .ok (.aload 4, 2) := by decide +kernel
theorem dX8_said_31 : decode cX8_said 31 = .ok (.ifnull 19, 3) := by decide +kernel
theorem dX8_said_34 : decode cX8_said 34 = .ok (.aload_n 0, 1) := by decide +kernel
theorem dX8_said_35 : decode cX8_said 35 = .ok (.aload_n 3, 1) := by decide +kernel
theorem dX8_said_36 : decode cX8_said 36 = .ok (.aload 4, 2) := by decide +kernel
theorem dX8_said_38 : decode cX8_said 38 = .ok (.invokevirtual 271, 3) := by decide +kernel
theorem dX8_said_41 : decode cX8_said 41 = .ok (.ifCond .eq 7, 3) := by decide +kernel
theorem dX8_said_44 : decode cX8_said 44 = .ok (.iconst 1, 1) := by decide +kernel
theorem dX8_said_45 : decode cX8_said 45 = .ok (.goto 4, 3) := by decide +kernel
theorem dX8_said_48 : decode cX8_said 48 = .ok (.iconst 0, 1) := by decide +kernel
theorem dX8_said_49 : decode cX8_said 49 = .ok (.ireturn, 1) := by decide +kernel
theorem dX8_said_50 : decode cX8_said 50 = .ok (.aload_n 0, 1) := by decide +kernel
theorem dX8_said_51 : decode cX8_said 51 = .ok (.getfield 10, 3) := by decide +kernel
theorem dX8_said_54 : decode cX8_said 54 = .ok (.getfield 88, 3) := by decide +kernel
theorem dX8_said_57 : decode cX8_said 57 = .ok (.istore 5, 2) := by decide +kernel
theorem dX8_said_59 : decode cX8_said 59 = .ok (.iload 5, 2) := by decide +kernel
theorem dX8_said_61 : decode cX8_said 61 = .ok (.bipush 6, 2) := by decide +kernel
theorem dX8_said_63 : decode cX8_said 63 = .ok (.if_icmp .le 6, 3) := by decide +kernel
theorem dX8_said_66 : decode cX8_said 66 = .ok (.bipush (-4), 2) := by decide +kernel
theorem dX8_said_68 : decode cX8_said 68 = .ok (.ireturn, 1) := by decide +kernel
theorem dX8_said_69 : decode cX8_said 69 = .ok (.iconst 0, 1) := by decide +kernel
theorem dX8_said_70 : decode cX8_said 70 = .ok (.istore 6, 2) := by decide +kernel
theorem dX8_said_72 : decode cX8_said 72 = .ok (.iload 6, 2) := by decide +kernel
theorem dX8_said_74 : decode cX8_said 74 = .ok (.iload 5, 2) := by decide +kernel
theorem dX8_said_76 : decode cX8_said 76 = .ok (.if_icmp .ge 47, 3) := by decide +kernel
theorem dX8_said_79 : decode cX8_said 79 = .ok (.iconst 0, 1) := by decide +kernel
theorem dX8_said_80 : decode cX8_said 80 = .ok (.istore 7, 2) := by decide +kernel
theorem dX8_said_82 : decode cX8_said 82 = .ok (.iload 7, 2) := by decide +kernel
theorem dX8_said_84 : decode cX8_said 84 = .ok (.iload 5, 2) := by decide +kernel
theorem dX8_said_86 : decode cX8_said 86 = .ok (.if_icmp .ge 31, 3) := by decide +kernel
theorem dX8_said_89 : decode cX8_said 89 = .ok (.aload_n 0, 1) := by decide +kernel
theorem dX8_said_90 : decode cX8_said 90 = .ok (.getfield 84, 3) := by decide +kernel
theorem dX8_said_93 : decode cX8_said 93 = .ok (.iload 6, 2) := by decide +kernel
theorem dX8_said_95 : decode cX8_said 95 = .ok (.bipush 6, 2) := by decide +kernel
theorem dX8_said_97 : decode cX8_said 97 = .ok (.imul, 1) := by decide +kernel
theorem dX8_said_98 : decode cX8_said 98 = .ok (.iload 7, 2) := by decide +kernel
theorem dX8_said_100 : decode cX8_said 100 = .ok (.iadd, 1) := by decide +kernel
theorem dX8_said_101 : decode cX8_said 101 = .ok (.aload_n 0, 1) := by decide +kernel
theorem dX8_said_102 : decode cX8_said 102 = .ok (.aload_n 3, 1) := by decide +kernel
theorem dX8_said_103 : decode cX8_said 103 = .ok (.iload 6, 2) := by decide +kernel
theorem dX8_said_105 : decode cX8_said 105 = .ok (.iload 7, 2) := by decide +kernel
theorem dX8_said_107 : decode cX8_said 107 = .ok (.invokevirtual 275, 3) := by decide +kernel
theorem dX8_said_110 : decode cX8_said 110 = .ok (.iastore, 1) := by decide +kernel
theorem dX8_said_111 : decode cX8_said 111 = .ok (.iinc 7 1, 3) := by decide +kernel
theorem dX8_said_114 : decode cX8_said 114 = .ok (.goto (-32), 3) := by decide +kernel
theorem dX8_said_117 : decode cX8_said 117 = .ok (.iinc 6 1, 3) := by decide +kernel
theorem dX8_said_120 : decode cX8_said 120 = .ok (.goto (-48), 3) := by decide +kernel
theorem dX8_said_123 : decode cX8_said 123 = .ok (.aload_n 0, 1) := by decide +kernel
theorem dX8_said_124 : decode cX8_said 124 = .ok (.getfield 84, 3) := by decide +kernel
theorem dX8_said_127 : decode cX8_said 127 = .ok (.iload 5, 2) := by decide +kernel
theorem dX8_said_129 : decode cX8_said 129 = .ok (.iconst 0, 1) := by decide +kernel
theorem dX8_said_130 : decode cX8_said 130 = .ok (.iconst 0, 1) := by decide +kernel
theorem dX8_said_131 : decode cX8_said 131 = .ok (.sipush 9999, 3) := by decide +kernel
theorem dX8_said_134 : decode cX8_said 134 = .ok (.invokestatic 279, 3) := by decide +kernel
theorem dX8_said_137 : decode cX8_said 137 = .ok (.ireturn, 1) := by decide +kernel
theorem dX8_isTrueOf_0 : decode cX8_isTrueOf 0 = .ok (.aload_n 2, 1) := by decide +kernel
theorem dX8_isTrueOf_1 : decode cX8_isTrueOf 1 = .ok (.invokevirtual 164, 3) := by decide +kernel
theorem dX8_isTrueOf_4 : decode cX8_isTrueOf 4 = .ok (.sipush 9999, 3) := by decide +kernel
theorem dX8_isTrueOf_7 : decode cX8_isTrueOf 7 = .ok (.istore_n 3, 1) := by decide +kernel
theorem dX8_isTrueOf_8 : decode cX8_isTrueOf 8 = .ok (.iconst 0, 1) := by decide +kernel
theorem dX8_isTrueOf_9 : decode cX8_isTrueOf 9 = .ok (.istore 4, 2) := by decide +kernel
theorem dX8_isTrueOf_11 : decode cX8_isTrueOf 11 = .ok (.iload 4, 2) := by decide +kernel
theorem dX8_isTrueOf_13 : decode cX8_isTrueOf 13 = .ok (.aload_n 0, 1) := by decide +kernel
theorem dX8_isTrueOf_14 : decode cX8_isTrueOf 14 = .ok (.getfield 10, 3) := by decide +kernel
theorem dX8_isTrueOf_17 : decode cX8_isTrueOf 17 = .ok (.getfield 88, 3) := by decide +kernel
theorem dX8_isTrueOf_20 : decode cX8_isTrueOf 20 = .ok (.if_icmp .ge 36, 3) := by decide +kernel
theorem dX8_isTrueOf_23 : decode cX8_isTrueOf 23 = .ok (.aload_n 0, 1) := by decide +kernel
theorem dX8_isTrueOf_24 : decode cX8_isTrueOf 24 = .ok (.aload_n 1, 1) := by decide +kernel
theorem dX8_isTrueOf_25 : decode cX8_isTrueOf 25 = .ok (.aload_n 2, 1) := by decide +kernel
theorem dX8_isTrueOf_26 : decode cX8_isTrueOf 26 = .ok (.getfield 283, 3) := by decide +kernel
theorem dX8_isTrueOf_29 : decode cX8_isTrueOf 29 = .ok (.iload 4, 2) := by decide +kernel
theorem dX8_isTrueOf_31 : decode cX8_isTrueOf 31 = .ok (.iaload, 1) := by decide +kernel
theorem dX8_isTrueOf_32 : decode cX8_isTrueOf 32 = .ok (.iload 4, 2) := by decide +kernel
theorem dX8_isTrueOf_34 : decode cX8_isTrueOf 34 = .ok (.invokevirtual 275, 3) := by decide +kernel
theorem dX8_isTrueOf_37 : decode cX8_isTrueOf 37 = .ok (.istore 5, 2) := by decide +kernel
theorem dX8_isTrueOf_39 : decode cX8_isTrueOf 39 = .ok (.iload 5, 2) := by decide +kernel
theorem dX8_isTrueOf_41 : decode cX8_isTrueOf 41 = .ok (.iload_n 3, 1) := by decide +kernel
theorem dX8_isTrueOf_42 : decode cX8_isTrueOf 42 = .ok (.if_icmp .le 5, 3) := by decide +kernel
theorem dX8_isTrueOf_45 : decode cX8_isTrueOf 45 = .ok (.iconst 0, 1) := by decide +kernel
theorem dX8_isTrueOf_46 : decode cX8_isTrueOf 46 = .ok (.ireturn, 1) := by decide +kernel
theorem dX8_isTrueOf_47 : decode cX8_isTrueOf 47 = .ok (.iload 5, 2) := by decide +kernel
theorem dX8_isTrueOf_49 : decode cX8_isTrueOf 49 = .ok (.istore_n 3, 1) := by decide +kernel
theorem dX8_isTrueOf_50 : decode cX8_isTrueOf 50 = .ok (.iinc 4 1, 3) := by decide +kernel
theorem dX8_isTrueOf_53 : decode cX8_isTrueOf 53 = .ok (.goto (-42), 3) := by decide +kernel
theorem dX8_isTrueOf_56 : decode cX8_isTrueOf 56 = .ok (.iconst 1, 1) := by decide +kernel
theorem dX8_isTrueOf_57 : decode cX8_isTrueOf 57 = .ok (.ireturn, 1) := by decide +kernel
theorem dX8_weightSaid_0 : decode cX8_weightSaid 0 = .ok (.aload_n 0, 1) := by decide +kernel
theorem dX8_weightSaid_1 : decode cX8_weightSaid 1 = .ok (.getfield 74, 3) := by decide +kernel
theorem dX8_weightSaid_4 : decode cX8_weightSaid 4 = .ok (.iconst 0, 1) := by decide +kernel
theorem dX8_weightSaid_5 : decode cX8_weightSaid 5 = .ok (.invokestatic 286, 3) := by decide +kernel
theorem dX8_weightSaid_8 : decode cX8_weightSaid 8 = .ok (.aload_n 0, 1) := by decide +kernel
theorem dX8_weightSaid_9 : decode cX8_weightSaid 9 = .ok (.getfield 74, 3) := by decide +kernel
theorem dX8_weightSaid_12 : decode cX8_weightSaid 12 = .ok (.iconst 0, 1) := by decide +kernel
theorem dX8_weightSaid_13 : decode cX8_weightSaid 13 = .ok (.aload_n 0, 1) := by decide +kernel
theorem dX8_weightSaid_14 : decode cX8_weightSaid 14 = .ok (.getfield 10, 3) := by decide +kernel
theorem dX8_weightSaid_17 : decode cX8_weightSaid 17 = .ok (.getfield 92, 3) := by decide +kernel
theorem dX8_weightSaid_20 : decode cX8_weightSaid 20 = .ok (.iload_n 2, 1) := by decide +kernel
theorem dX8_weightSaid_21 : decode cX8_weightSaid 21 = .ok (.iaload, 1) := by decide +kernel
theorem dX8_weightSaid_22 : decode cX8_weightSaid 22 = .ok (.iastore, 1) := by decide +kernel
theorem dX8_weightSaid_23 : decode cX8_weightSaid 23 = .ok (.aload_n 0, 1) := by decide +kernel
theorem dX8_weightSaid_24 : decode cX8_weightSaid 24 = .ok (.getfield 74, 3) := by decide +kernel
theorem dX8_weightSaid_27 : decode cX8_weightSaid 27 = .ok (.iconst 2, 1) := by decide +kernel
theorem dX8_weightSaid_28 : decode cX8_weightSaid 28 = .ok (.iload_n 3, 1) := by decide +kernel
theorem dX8_weightSaid_29 : decode cX8_weightSaid 29 = .ok (.iastore, 1) := by decide +kernel
theorem dX8_weightSaid_30 : decode cX8_weightSaid 30 = .ok (.aload_n 0, 1) := by decide +kernel
theorem dX8_weightSaid_31 : decode cX8_weightSaid 31 = .ok (.getfield 74, 3) := by decide +kernel
theorem dX8_weightSaid_34 : decode cX8_weightSaid 34 = .ok (.iconst 3, 1) := by decide +kernel
theorem dX8_weightSaid_35 : decode cX8_weightSaid 35 = .ok (.aload_n 0, 1) := by decide +kernel
theorem dX8_weightSaid_36 : decode cX8_weightSaid 36 = .ok (.getfield 10, 3) := by decide +kernel
theorem dX8_weightSaid_39 : decode cX8_weightSaid 39 = .ok (.getfield 88, 3) := by decide +kernel
theorem dX8_weightSaid_42 : decode cX8_weightSaid 42 = .ok (.iastore, 1) := by decide +kernel
theorem dX8_weightSaid_43 : decode cX8_weightSaid 43 = .ok (.aload_n 0, 1) := by decide +kernel
theorem dX8_weightSaid_44 : decode cX8_weightSaid 44 = .ok (.getfield 74, 3) := by decide +kernel
theorem dX8_weightSaid_47 : decode cX8_weightSaid 47 = .ok (.bipush 6, 2) := by decide +kernel
theorem dX8_weightSaid_49 : decode cX8_weightSaid 49 = .ok (.iload_n 2, 1) := by decide +kernel
theorem dX8_weightSaid_50 : decode cX8_weightSaid 50 = .ok (.iastore, 1) := by decide +kernel
theorem dX8_weightSaid_51 : decode cX8_weightSaid 51 = .ok (.aload_n 1, 1) := by decide +kernel
theorem dX8_weightSaid_52 : decode cX8_weightSaid 52 = .ok (.aload_n 0, 1) := by decide +kernel
theorem dX8_weightSaid_53 : decode cX8_weightSaid 53 = .ok (.getfield 74, 3) := by decide +kernel
theorem dX8_weightSaid_56 : decode cX8_weightSaid 56 = .ok (.invokevirtual 292, 3) := by decide +kernel
theorem dX8_weightSaid_59 : decode cX8_weightSaid 59 = .ok (.ireturn, 1) := by decide +kernel
theorem dX8_ordersFrom_0 : decode cX8_ordersFrom 0 = .ok (.iload_n 2, 1) := by decide +kernel
theorem dX8_ordersFrom_1 : decode cX8_ordersFrom 1 = .ok (.iload_n 1, 1) := by decide +kernel
theorem dX8_ordersFrom_2 : decode cX8_ordersFrom 2 = .ok (.if_icmp .ge 9, 3) := by decide +kernel
theorem dX8_ordersFrom_5 : decode cX8_ordersFrom 5 = .ok (.iload_n 2, 1) := by decide +kernel
theorem dX8_ordersFrom_6 : decode cX8_ordersFrom 6 = .ok (.bipush 6, 2) := by decide +kernel
theorem dX8_ordersFrom_8 : decode cX8_ordersFrom 8 = .ok (.if_icmp .lt 5, 3) := by decide +kernel
theorem dX8_ordersFrom_11 : decode cX8_ordersFrom 11 = .ok (.iconst 1, 1) := by decide +kernel
theorem dX8_ordersFrom_12 : decode cX8_ordersFrom 12 = .ok (.ireturn, 1) := by decide +kernel
theorem dX8_ordersFrom_13 : decode cX8_ordersFrom 13 = .ok (.iconst 0, 1) := by decide +kernel
theorem dX8_ordersFrom_14 : decode cX8_ordersFrom 14 = .ok (.istore 5, 2) := by decide +kernel
theorem dX8_ordersFrom_16 : decode cX8_ordersFrom 16 = .ok (.iconst 0, 1) := by decide +kernel
theorem dX8_ordersFrom_17 : decode cX8_ordersFrom 17 = .ok (.istore 6, 2) := by decide +kernel
theorem dX8_ordersFrom_19 : decode cX8_ordersFrom 19 = .ok (.iload 6, 2) := by decide +kernel
theorem dX8_ordersFrom_21 : decode cX8_ordersFrom 21 = .ok (.iload_n 1, 1) := by decide +kernel
theorem dX8_ordersFrom_22 : decode cX8_ordersFrom 22 = .ok (.if_icmp .ge 57, 3) := by decide +kernel
theorem dX8_ordersFrom_25 : decode cX8_ordersFrom 25 = .ok (.aload_n 0, 1) := by decide +kernel
theorem dX8_ordersFrom_26 : decode cX8_ordersFrom 26 = .ok (.iload 6, 2) := by decide +kernel
theorem dX8_ordersFrom_28 : decode cX8_ordersFrom 28 = .ok (.bipush 6, 2) := by decide +kernel
theorem dX8_ordersFrom_30 : decode cX8_ordersFrom 30 = .ok (.imul, 1) := by decide +kernel
theorem dX8_ordersFrom_31 : decode cX8_ordersFrom 31 = .ok (.iload_n 2, 1) := by decide +kernel
theorem dX8_ordersFrom_32 : decode cX8_ordersFrom 32 = .ok (.iadd, 1) := by decide +kernel
theorem dX8_ordersFrom_33 : decode cX8_ordersFrom 33 = .ok (.iaload, 1) := by decide +kernel
theorem dX8_ordersFrom_34 : decode cX8_ordersFrom 34 = .ok (.istore 7, 2) := by decide +kernel
theorem dX8_ordersFrom_36 : decode cX8_ordersFrom 36 = .ok (.iload_n 3, 1) := by decide +kernel
theorem dX8_ordersFrom_37 : decode cX8_ordersFrom 37 = .ok (.iload 6, 2) := by decide +kernel
theorem dX8_ordersFrom_39 : decode cX8_ordersFrom 39 = .ok (.ishr, 1) := by decide +kernel
theorem dX8_ordersFrom_40 : decode cX8_ordersFrom 40 = .ok (.iconst 1, 1) := by decide +kernel
theorem dX8_ordersFrom_41 : decode cX8_ordersFrom 41 = .ok (.iand, 1) := by decide +kernel
theorem dX8_ordersFrom_42 : decode cX8_ordersFrom 42 = .ok (.ifCond .ne 31, 3) := by decide +kernel
theorem dX8_ordersFrom_45 : decode cX8_ordersFrom 45 = .ok (.iload 7, 2) := by decide +kernel
theorem dX8_ordersFrom_47 : decode cX8_ordersFrom 47 = .ok (.iload 4, 2) := by decide +kernel
theorem dX8_ordersFrom_49 : decode cX8_ordersFrom 49 = .ok (.if_icmp .gt 24, 3) := by decide +kernel
theorem dX8_ordersFrom_52 : decode cX8_ordersFrom 52 = .ok (.iload 5, 2) := by decide +kernel
theorem dX8_ordersFrom_54 : decode cX8_ordersFrom 54 = .ok (.aload_n 0, 1) := by decide +kernel
theorem dX8_ordersFrom_55 : decode cX8_ordersFrom 55 = .ok (.iload_n 1, 1) := by decide +kernel
theorem dX8_ordersFrom_56 : decode cX8_ordersFrom 56 = .ok (.iload_n 2, 1) := by decide +kernel
theorem dX8_ordersFrom_57 : decode cX8_ordersFrom 57 = .ok (.iconst 1, 1) := by decide +kernel
theorem dX8_ordersFrom_58 : decode cX8_ordersFrom 58 = .ok (.iadd, 1) := by decide +kernel
theorem dX8_ordersFrom_59 : decode cX8_ordersFrom 59 = .ok (.iload_n 3, 1) := by decide +kernel
theorem dX8_ordersFrom_60 : decode cX8_ordersFrom 60 = .ok (.iconst 1, 1) := by decide +kernel
theorem dX8_ordersFrom_61 : decode cX8_ordersFrom 61 = .ok (.iload 6, 2) := by decide +kernel
theorem dX8_ordersFrom_63 : decode cX8_ordersFrom 63 = .ok (.ishl, 1) := by decide +kernel
theorem dX8_ordersFrom_64 : decode cX8_ordersFrom 64 = .ok (.ior, 1) := by decide +kernel
theorem dX8_ordersFrom_65 : decode cX8_ordersFrom 65 = .ok (.iload 7, 2) := by decide +kernel
theorem dX8_ordersFrom_67 : decode cX8_ordersFrom 67 = .ok (.invokestatic 279, 3) := by decide +kernel
theorem dX8_ordersFrom_70 : decode cX8_ordersFrom 70 = .ok (.iadd, 1) := by decide +kernel
theorem dX8_ordersFrom_71 : decode cX8_ordersFrom 71 = .ok (.istore 5, 2) := by decide +kernel
theorem dX8_ordersFrom_73 : decode cX8_ordersFrom 73 = .ok (.iinc 6 1, 3) := by decide +kernel
theorem dX8_ordersFrom_76 : decode cX8_ordersFrom 76 = .ok (.goto (-57), 3) := by decide +kernel
theorem dX8_ordersFrom_79 : decode cX8_ordersFrom 79 = .ok (.iload 5, 2) := by decide +kernel
theorem dX8_ordersFrom_81 : decode cX8_ordersFrom 81 = .ok (.ireturn, 1) := by decide +kernel
theorem dX8_strong_0 : decode cX8_strong 0 = .ok (.aload_n 0, 1) := by decide +kernel
theorem dX8_strong_1 : decode cX8_strong 1 = .ok (.iload_n 1, 1) := by decide +kernel
theorem dX8_strong_2 : decode cX8_strong 2 = .ok (.bipush 10, 2) := by decide +kernel
theorem dX8_strong_4 : decode cX8_strong 4 = .ok (.idiv, 1) := by decide +kernel
theorem dX8_strong_5 : decode cX8_strong 5 = .ok (.invokevirtual 124, 3) := by decide +kernel
theorem dX8_strong_8 : decode cX8_strong 8 = .ok (.astore 4, 2) := by decide +kernel
theorem dX8_strong_10 : decode cX8_strong 10 = .ok (.aload_n 0, 1) := by decide +kernel
theorem dX8_strong_11 : decode cX8_strong 11 = .ok (.iload_n 1, 1) := by decide +kernel
theorem dX8_strong_12 : decode cX8_strong 12 = .ok (.bipush 10, 2) := by decide +kernel
theorem dX8_strong_14 : decode cX8_strong 14 = .ok (.irem, 1) := by decide +kernel
theorem dX8_strong_15 : decode cX8_strong 15 = .ok (.invokevirtual 124, 3) := by decide +kernel
theorem dX8_strong_18 : decode cX8_strong 18 = .ok (.astore 5, 2) := by decide +kernel
theorem dX8_strong_20 : decode cX8_strong 20 = .ok (.aload 4, 2) := by decide +kernel
theorem dX8_strong_22 : decode cX8_strong 22 = .ok (.ifnull 27, 3) := by decide +kernel
theorem dX8_strong_25 : decode cX8_strong 25 = .ok (.aload 5, 2) := by decide +kernel
theorem dX8_strong_27 : decode cX8_strong 27 = .ok (.ifnull 22, 3) := by decide +kernel
theorem dX8_strong_30 : decode cX8_strong 30 = .ok (.aload 4, 2) := by decide +kernel
theorem dX8_strong_32 : decode cX8_strong 32 = .ok (.aload 5, 2) := by decide +kernel
theorem dX8_strong_34 : decode cX8_strong 34 = .ok (.if_acmp .eq 15, 3) := by decide +kernel
theorem dX8_strong_37 : decode cX8_strong 37 = .ok (.iload_n 2, 1) := by decide +kernel
theorem dX8_strong_38 : decode cX8_strong 38 = .ok (.iconst 1, 1) := by decide +kernel
theorem dX8_strong_39 : decode cX8_strong 39 = .ok (.if_icmp .lt 10, 3) := by decide +kernel
theorem dX8_strong_42 : decode cX8_strong 42 = .ok (.iload_n 2, 1) := by decide +kernel
theorem dX8_strong_43 : decode cX8_strong 43 = .ok (.sipush 400, 3) := by decide +kernel
theorem dX8_strong_46 : decode cX8_strong 46 = .ok (.if_icmp .le 7, 3) := by decide +kernel
theorem dX8_strong_49 : decode cX8_strong 49 = .ok (.ldc_w 262, 3) := by decide +kernel
theorem dX8_strong_52 : decode cX8_strong 52 = .ok (.ireturn, 1) := by decide +kernel
theorem dX8_strong_53 : decode cX8_strong 53 = .ok (.aload_n 0, 1) := by decide +kernel
theorem dX8_strong_54 : decode cX8_strong 54 = .ok (.aload 4, 2) := by decide +kernel
theorem dX8_strong_56 : decode cX8_strong 56 = .ok (.iload_n 2, 1) := by decide +kernel
theorem dX8_strong_57 : decode cX8_strong 57 = .ok (.iload_n 3, 1) := by decide +kernel
theorem dX8_strong_58 : decode cX8_strong 58 = .ok (.invokevirtual 294, 3) := by decide +kernel
theorem dX8_strong_61 : decode cX8_strong 61 = .ok (.aload_n 0, 1) := by decide +kernel
theorem dX8_strong_62 : decode cX8_strong 62 = .ok (.aload 5, 2) := by decide +kernel
theorem dX8_strong_64 : decode cX8_strong 64 = .ok (.iload_n 2, 1) := by decide +kernel
theorem dX8_strong_65 : decode cX8_strong 65 = .ok (.iload_n 3, 1) := by decide +kernel
theorem dX8_strong_66 : decode cX8_strong 66 = .ok (.invokevirtual 294, 3) := by decide +kernel
theorem dX8_strong_69 : decode cX8_strong 69 = .ok (.isub, 1) := by decide +kernel
theorem dX8_strong_70 : decode cX8_strong 70 = .ok (.ireturn, 1) := by decide +kernel
theorem dX8_apartInThought_0 : decode cX8_apartInThought 0 = .ok (.aload_n 0, 1) := by decide +kernel
theorem dX8_apartInThought_1 : decode cX8_apartInThought 1 = .ok (.getfield 58, 3) := by decide +kernel
theorem dX8_apartInThought_4 : decode cX8_apartInThought 4 = .ok (.aload_n 1, 1) := by decide +kernel
theorem dX8_apartInThought_5 : decode cX8_apartInThought 5 = .ok (.iload_n 3, 1) := by decide +kernel
theorem dX8_apartInThought_6 : decode cX8_apartInThought 6 = .ok (.invokevirtual 131, 3) := by decide +kernel
theorem dX8_apartInThought_9 : decode cX8_apartInThought 9 = .ok (.aload_n 0, 1) := by decide +kernel
theorem dX8_apartInThought_10 : decode cX8_apartInThought 10 = .ok (.getfield 62, 3) := by decide +kernel
theorem dX8_apartInThought_13 : decode cX8_apartInThought 13 = .ok (.aload_n 1, 1) := by decide +kernel
theorem dX8_apartInThought_14 : decode cX8_apartInThought 14 = .ok (.iload_n 3, 1) := by decide +kernel
theorem dX8_apartInThought_15 : decode cX8_apartInThought 15 = .ok (.iconst 1, 1) := by decide +kernel
theorem dX8_apartInThought_16 : decode cX8_apartInThought 16 = .ok (.iadd, 1) := by decide +kernel
theorem dX8_apartInThought_17 : decode cX8_apartInThought 17 = .ok (.invokevirtual 131, 3) := by decide +kernel
theorem dX8_apartInThought_20 : decode cX8_apartInThought 20 = .ok (.aload_n 0, 1) := by decide +kernel
theorem dX8_apartInThought_21 : decode cX8_apartInThought 21 = .ok (.getfield 58, 3) := by decide +kernel
theorem dX8_apartInThought_24 : decode cX8_apartInThought 24 = .ok (.iload_n 2, 1) := by decide +kernel
theorem dX8_apartInThought_25 : decode cX8_apartInThought 25 = .ok (.invokevirtual 183, 3) := by decide +kernel
theorem dX8_apartInThought_28 : decode cX8_apartInThought 28 = .ok (.pop, 1) := by decide +kernel
theorem dX8_apartInThought_29 : decode cX8_apartInThought 29 = .ok (.aload_n 0, 1) := by decide +kernel
theorem dX8_apartInThought_30 : decode cX8_apartInThought 30 = .ok (.getfield 62, 3) := by decide +kernel
theorem dX8_apartInThought_33 : decode cX8_apartInThought 33 = .ok (.iload_n 2, 1) := by decide +kernel
theorem dX8_apartInThought_34 : decode cX8_apartInThought 34 = .ok (.invokevirtual 183, 3) := by decide +kernel
theorem dX8_apartInThought_37 : decode cX8_apartInThought 37 = .ok (.pop, 1) := by decide +kernel
theorem dX8_apartInThought_38 : decode cX8_apartInThought 38 = .ok (.aload_n 0, 1) := by decide +kernel
theorem dX8_apartInThought_39 : decode cX8_apartInThought 39 = .ok (.aload_n 0, 1) := by decide +kernel
theorem dX8_apartInThought_40 : decode cX8_apartInThought 40 = .ok (.getfield 58, 3) := by decide +kernel
theorem dX8_apartInThought_43 : decode cX8_apartInThought 43 = .ok (.aload_n 0, 1) := by decide +kernel
theorem dX8_apartInThought_44 : decode cX8_apartInThought 44 = .ok (.getfield 62, 3) := by decide +kernel
theorem dX8_apartInThought_47 : decode cX8_apartInThought 47 = .ok (.invokevirtual 216, 3) := by decide +kernel
theorem dX8_apartInThought_50 : decode cX8_apartInThought 50 = .ok (.ireturn, 1) := by decide +kernel
theorem dX8_line_0 : decode cX8_line 0 = .ok (.aload_n 0, 1) := by decide +kernel
theorem dX8_line_1 : decode cX8_line 1 = .ok (.iload_n 1, 1) := by decide +kernel
theorem dX8_line_2 : decode cX8_line 2 = .ok (.bipush 10, 2) := by decide +kernel
theorem dX8_line_4 : decode cX8_line 4 = .ok (.idiv, 1) := by decide +kernel
theorem dX8_line_5 : decode cX8_line 5 = .ok (.invokevirtual 147, 3) := by decide +kernel
theorem dX8_line_8 : decode cX8_line 8 = .ok (.astore_n 2, 1) := by decide +kernel
theorem dX8_line_9 : decode cX8_line 9 = .ok (.aload_n 0, 1) := by decide +kernel
theorem dX8_line_10 : decode cX8_line 10 = .ok (.iload_n 1, 1) := by decide +kernel
theorem dX8_line_11 : decode cX8_line 11 = .ok (.bipush 10, 2) := by decide +kernel
theorem dX8_line_13 : decode cX8_line 13 = .ok (.irem, 1) := by decide +kernel
theorem dX8_line_14 : decode cX8_line 14 = .ok (.invokevirtual 147, 3) := by decide +kernel
theorem dX8_line_17 : decode cX8_line 17 = .ok (.astore_n 3, 1) := by decide +kernel
theorem dX8_line_18 : decode cX8_line 18 = .ok (.aload_n 2, 1) := by decide +kernel
theorem dX8_line_19 : decode cX8_line 19 = .ok (.ifnull 12, 3) := by decide +kernel
theorem dX8_line_22 : decode cX8_line 22 = .ok (.aload_n 3, 1) := by decide +kernel
theorem dX8_line_23 : decode cX8_line 23 = .ok (.ifnull 8, 3) := by decide +kernel
theorem dX8_line_26 : decode cX8_line 26 = .ok (.aload_n 2, 1) := by decide +kernel
theorem dX8_line_27 : decode cX8_line 27 = .ok (.aload_n 3, 1) := by decide +kernel
theorem dX8_line_28 : decode cX8_line 28 = .ok (.if_acmp .ne 5, 3) := by decide +kernel
theorem dX8_line_31 : decode cX8_line 31 = .ok (.iconst (-1), 1) := by decide +kernel
theorem dX8_line_32 : decode cX8_line 32 = .ok (.ireturn, 1) := by decide +kernel
theorem dX8_line_33 : decode cX8_line 33 = .ok (.aload_n 2, 1) := by decide +kernel
theorem dX8_line_34 : decode cX8_line 34 = .ok (.invokevirtual 164, 3) := by decide +kernel
theorem dX8_line_37 : decode cX8_line 37 = .ok (.aload_n 3, 1) := by decide +kernel
theorem dX8_line_38 : decode cX8_line 38 = .ok (.invokevirtual 164, 3) := by decide +kernel
theorem dX8_line_41 : decode cX8_line 41 = .ok (.aload_n 0, 1) := by decide +kernel
theorem dX8_line_42 : decode cX8_line 42 = .ok (.aload_n 2, 1) := by decide +kernel
theorem dX8_line_43 : decode cX8_line 43 = .ok (.getfield 170, 3) := by decide +kernel
theorem dX8_line_46 : decode cX8_line 46 = .ok (.aload_n 3, 1) := by decide +kernel
theorem dX8_line_47 : decode cX8_line 47 = .ok (.getfield 170, 3) := by decide +kernel
theorem dX8_line_50 : decode cX8_line 50 = .ok (.invokevirtual 297, 3) := by decide +kernel
theorem dX8_line_53 : decode cX8_line 53 = .ok (.ireturn, 1) := by decide +kernel
theorem dX8_against_0 : decode cX8_against 0 = .ok (.aload_n 0, 1) := by decide +kernel
theorem dX8_against_1 : decode cX8_against 1 = .ok (.iload_n 1, 1) := by decide +kernel
theorem dX8_against_2 : decode cX8_against 2 = .ok (.bipush 10, 2) := by decide +kernel
theorem dX8_against_4 : decode cX8_against 4 = .ok (.idiv, 1) := by decide +kernel
theorem dX8_against_5 : decode cX8_against 5 = .ok (.invokevirtual 147, 3) := by decide +kernel
theorem dX8_against_8 : decode cX8_against 8 = .ok (.astore 4, 2) := by decide +kernel
theorem dX8_against_10 : decode cX8_against 10 = .ok (.aload_n 0, 1) := by decide +kernel
theorem dX8_against_11 : decode cX8_against 11 = .ok (.iload_n 1, 1) := by decide +kernel
theorem dX8_against_12 : decode cX8_against 12 = .ok (.bipush 10, 2) := by decide +kernel
theorem dX8_against_14 : decode cX8_against 14 = .ok (.irem, 1) := by decide +kernel
theorem dX8_against_15 : decode cX8_against 15 = .ok (.invokevirtual 147, 3) := by decide +kernel
theorem dX8_against_18 : decode cX8_against 18 = .ok (.astore 5, 2) := by decide +kernel
theorem dX8_against_20 : decode cX8_against 20 = .ok (.aload 4, 2) := by decide +kernel
theorem dX8_against_22 : decode cX8_against 22 = .ok (.ifnull 26, 3) := by decide +kernel
theorem dX8_against_25 : decode cX8_against 25 = .ok (.aload 5, 2) := by decide +kernel
theorem dX8_against_27 : decode cX8_against 27 = .ok (.ifnull 21, 3) := by decide +kernel
theorem dX8_against_30 : decode cX8_against 30 = .ok (.aload 4, 2) := by decide +kernel
theorem dX8_against_32 : decode cX8_against 32 = .ok (.aload 5, 2) := by decide +kernel
theorem dX8_against_34 : decode cX8_against 34 = .ok (.if_acmp .eq 14, 3) := by decide +kernel
theorem dX8_against_37 : decode cX8_against 37 = .ok (.iload_n 3, 1) := by decide +kernel
theorem dX8_against_38 : decode cX8_against 38 = .ok (.iconst 1, 1) := by decide +kernel
theorem dX8_against_39 : decode cX8_against 39 = .ok (.if_icmp .lt 9, 3) := by decide +kernel
theorem dX8_against_42 : decode cX8_against 42 = .ok (.iload_n 3, 1) := by decide +kernel
theorem dX8_against_43 : decode cX8_against 43 = .ok (.bipush 50, 2) := by decide +kernel
theorem dX8_against_45 : decode cX8_against 45 = .ok (.if_icmp .le 5, 3) := by decide +kernel
theorem dX8_against_48 : decode cX8_against 48 = .ok (.iconst (-1), 1) := by decide +kernel
theorem dX8_against_49 : decode cX8_against 49 = .ok (.ireturn, 1) := by decide +kernel
theorem dX8_against_50 : decode cX8_against 50 = .ok (.aload 4, 2) := by decide +kernel
theorem dX8_against_52 : decode cX8_against 52 = .ok (.invokevirtual 164, 3) := by decide +kernel
theorem dX8_against_55 : decode cX8_against 55 = .ok (.aload 5, 2) := by decide +kernel
theorem dX8_against_57 : decode cX8_against 57 = .ok (.invokevirtual 164, 3) := by decide +kernel
theorem dX8_against_60 : decode cX8_against 60 = .ok (.aload_n 0, 1) := by decide +kernel
theorem dX8_against_61 : decode cX8_against 61 = .ok (.aload 4, 2) := by decide +kernel
theorem dX8_against_63 : decode cX8_against 63 = .ok (.getfield 170, 3) := by decide +kernel
theorem dX8_against_66 : decode cX8_against 66 = .ok (.aload 5, 2) := by decide +kernel
theorem dX8_against_68 : decode cX8_against 68 = .ok (.getfield 170, 3) := by decide +kernel
theorem dX8_against_71 : decode cX8_against 71 = .ok (.invokevirtual 297, 3) := by decide +kernel
theorem dX8_against_74 : decode cX8_against 74 = .ok (.istore 6, 2) := by decide +kernel
theorem dX8_against_76 : decode cX8_against 76 = .ok (.iconst 0, 1) := by decide +kernel
theorem dX8_against_77 : decode cX8_against 77 = .ok (.istore 7, 2) := by decide +kernel
theorem dX8_against_79 : decode cX8_against 79 = .ok (.iload_n 2, 1) := by decide +kernel
theorem dX8_against_80 : decode cX8_against 80 = .ok (.istore 8, 2) := by decide +kernel
theorem dX8_against_82 : decode cX8_against 82 = .ok (.aload 5, 2) := by decide +kernel
theorem dX8_against_84 : decode cX8_against 84 = .ok (.getfield 170, 3) := by decide +kernel
theorem dX8_against_87 : decode cX8_against 87 = .ok (.iconst 0, 1) := by decide +kernel
theorem dX8_against_88 : decode cX8_against 88 = .ok (.aload_n 0, 1) := by decide +kernel
theorem dX8_against_89 : decode cX8_against 89 = .ok (.getfield 81, 3) := by decide +kernel
theorem dX8_against_92 : decode cX8_against 92 = .ok (.iconst 0, 1) := by decide +kernel
theorem dX8_against_93 : decode cX8_against 93 = .ok (.aload_n 0, 1) := by decide +kernel
theorem dX8_against_94 : decode cX8_against 94 = .ok (.getfield 10, 3) := by decide +kernel
theorem dX8_against_97 : decode cX8_against 97 = .ok (.getfield 88, 3) := by decide +kernel
theorem dX8_against_100 : decode cX8_against 100 = .ok (.invokestatic 301, 3) := by decide +kernel
theorem dX8_against_103 : decode cX8_against 103 = .ok (.iconst 0, 1) := by decide +kernel
theorem dX8_against_104 : decode cX8_against 104 = .ok (.istore 9, 2) := by decide +kernel
theorem dX8_against_106 : decode cX8_against 106 = .ok (.iload 9, 2) := by decide +kernel
theorem dX8_against_108 : decode cX8_against 108 = .ok (.iload_n 3, 1) := by decide +kernel
theorem dX8_against_109 : decode cX8_against 109 = .ok (.if_icmp .ge 48, 3) := by decide +kernel
theorem dX8_against_112 : decode cX8_against 112 = .ok (.aload_n 0, 1) := by decide +kernel
theorem dX8_against_113 : decode cX8_against 113 = .ok (.getfield 81, 3) := by decide +kernel
theorem dX8_against_116 : decode cX8_against 116 = .ok (.aload_n 0, 1) := by decide +kernel
theorem dX8_against_117 : decode cX8_against 117 = .ok (.getfield 10, 3) := by decide +kernel
theorem dX8_against_120 : decode cX8_against 120 = .ok (.getfield 88, 3) := by decide +kernel
theorem dX8_against_123 : decode cX8_against 123 = .ok (.iload 8, 2) := by decide +kernel
theorem dX8_against_125 : decode cX8_against 125 = .ok (.invokestatic 307, 3) := by decide +kernel
theorem dX8_against_128 : decode cX8_against 128 = .ok (.istore 8, 2) := by decide +kernel
theorem dX8_against_130 : decode cX8_against 130 = .ok (.aload_n 0, 1) := by decide +kernel
theorem dX8_against_131 : decode cX8_against 131 = .ok (.aload 4, 2) := by decide +kernel
theorem dX8_against_133 : decode cX8_against 133 = .ok (.getfield 170, 3) := by decide +kernel
theorem dX8_against_136 : decode cX8_against 136 = .ok (.aload_n 0, 1) := by decide +kernel
theorem dX8_against_137 : decode cX8_against 137 = .ok (.getfield 81, 3) := by decide +kernel
theorem dX8_against_140 : decode cX8_against 140 = .ok (.invokevirtual 297, 3) := by decide +kernel
theorem dX8_against_143 : decode cX8_against 143 = .ok (.iload 6, 2) := by decide +kernel
theorem dX8_against_145 : decode cX8_against 145 = .ok (.if_icmp .gt 6, 3) := by decide +kernel
theorem dX8_against_148 : decode cX8_against 148 = .ok (.iinc 7 1, 3) := by decide +kernel
theorem dX8_against_151 : decode cX8_against 151 = .ok (.iinc 9 1, 3) := by decide +kernel
theorem dX8_against_154 : decode cX8_against 154 = .ok (.goto (-48), 3) := by decide +kernel
theorem dX8_against_157 : decode cX8_against 157 = .ok (.iload 7, 2) := by decide +kernel
theorem dX8_against_159 : decode cX8_against 159 = .ok (.ireturn, 1) := by decide +kernel
theorem dX8_farApart_0 : decode cX8_farApart 0 = .ok (.iconst 0, 1) := by decide +kernel
theorem dX8_farApart_1 : decode cX8_farApart 1 = .ok (.istore_n 3, 1) := by decide +kernel
theorem dX8_farApart_2 : decode cX8_farApart 2 = .ok (.iconst 0, 1) := by decide +kernel
theorem dX8_farApart_3 : decode cX8_farApart 3 = .ok (.istore 4, 2) := by decide +kernel
theorem dX8_farApart_5 : decode cX8_farApart 5 = .ok (.iload 4, 2) := by decide +kernel
theorem dX8_farApart_7 : decode cX8_farApart 7 = .ok (.aload_n 0, 1) := by decide +kernel
theorem dX8_farApart_8 : decode cX8_farApart 8 = .ok (.getfield 10, 3) := by decide +kernel
theorem dX8_farApart_11 : decode cX8_farApart 11 = .ok (.getfield 88, 3) := by decide +kernel
theorem dX8_farApart_14 : decode cX8_farApart 14 = .ok (.if_icmp .ge 24, 3) := by decide +kernel
theorem dX8_farApart_17 : decode cX8_farApart 17 = .ok (.iload_n 3, 1) := by decide +kernel
theorem dX8_farApart_18 : decode cX8_farApart 18 = .ok (.aload_n 1, 1) := by decide +kernel
theorem dX8_farApart_19 : decode cX8_farApart 19 = .ok (.iload 4, 2) := by decide +kernel
theorem dX8_farApart_21 : decode cX8_farApart 21 = .ok (.iaload, 1) := by decide +kernel
theorem dX8_farApart_22 : decode cX8_farApart 22 = .ok (.aload_n 2, 1) := by decide +kernel
theorem dX8_farApart_23 : decode cX8_farApart 23 = .ok (.iload 4, 2) := by decide +kernel
theorem dX8_farApart_25 : decode cX8_farApart 25 = .ok (.iaload, 1) := by decide +kernel
theorem dX8_farApart_26 : decode cX8_farApart 26 = .ok (.isub, 1) := by decide +kernel
theorem dX8_farApart_27 : decode cX8_farApart 27 = .ok (.invokestatic 211, 3) := by decide +kernel
theorem dX8_farApart_30 : decode cX8_farApart 30 = .ok (.iadd, 1) := by decide +kernel
theorem dX8_farApart_31 : decode cX8_farApart 31 = .ok (.istore_n 3, 1) := by decide +kernel
theorem dX8_farApart_32 : decode cX8_farApart 32 = .ok (.iinc 4 1, 3) := by decide +kernel
theorem dX8_farApart_35 : decode cX8_farApart 35 = .ok (.goto (-30), 3) := by decide +kernel
theorem dX8_farApart_38 : decode cX8_farApart 38 = .ok (.iload_n 3, 1) := by decide +kernel
theorem dX8_farApart_39 : decode cX8_farApart 39 = .ok (.ireturn, 1) := by decide +kernel
theorem dX8_shuffle_0 : decode cX8_shuffle 0 = .ok (.iload_n 2, 1) := by decide +kernel
theorem dX8_shuffle_1 : decode cX8_shuffle 1 = .ok (.istore_n 3, 1) := by decide +kernel
theorem dX8_shuffle_2 : decode cX8_shuffle 2 = .ok (.iload_n 1, 1) := by decide +kernel
theorem dX8_shuffle_3 : decode cX8_shuffle 3 = .ok (.iconst 1, 1) := by decide +kernel
theorem dX8_shuffle_4 : decode cX8_shuffle 4 = .ok (.isub, 1) := by decide +kernel
theorem dX8_shuffle_5 : decode cX8_shuffle 5 = .ok (.istore 4, 2) := by decide +kernel
theorem dX8_shuffle_7 : decode cX8_shuffle 7 = .ok (.iload 4, 2) := by decide +kernel
theorem dX8_shuffle_9 : decode cX8_shuffle 9 = .ok (.ifCond .le 45, 3) := by decide +kernel
theorem dX8_shuffle_12 : decode cX8_shuffle 12 = .ok (.iload_n 3, 1) := by decide +kernel
theorem dX8_shuffle_13 : decode cX8_shuffle 13 = .ok (.invokestatic 311, 3) := by decide +kernel
theorem dX8_shuffle_16 : decode cX8_shuffle 16 = .ok (.istore_n 3, 1) := by decide +kernel
theorem dX8_shuffle_17 : decode cX8_shuffle 17 = .ok (.iload_n 3, 1) := by decide +kernel
theorem dX8_shuffle_18 : decode cX8_shuffle 18 = .ok (.bipush 8, 2) := by decide +kernel
theorem dX8_shuffle_20 : decode cX8_shuffle 20 = .ok (.iushr, 1) := by decide +kernel
theorem dX8_shuffle_21 : decode cX8_shuffle 21 = .ok (.iload 4, 2) := by decide +kernel
theorem dX8_shuffle_23 : decode cX8_shuffle 23 = .ok (.iconst 1, 1) := by decide +kernel
theorem dX8_shuffle_24 : decode cX8_shuffle 24 = .ok (.iadd, 1) := by decide +kernel
theorem dX8_shuffle_25 : decode cX8_shuffle 25 = .ok (.irem, 1) := by decide +kernel
theorem dX8_shuffle_26 : decode cX8_shuffle 26 = .ok (.istore 5, 2) := by decide +kernel
theorem dX8_shuffle_28 : decode cX8_shuffle 28 = .ok (.aload_n 0, 1) := by decide +kernel
theorem dX8_shuffle_29 : decode cX8_shuffle 29 = .ok (.iload 4, 2) := by decide +kernel
theorem dX8_shuffle_31 : decode cX8_shuffle 31 = .ok (.iaload, 1) := by decide +kernel
theorem dX8_shuffle_32 : decode cX8_shuffle 32 = .ok (.istore 6, 2) := by decide +kernel
theorem dX8_shuffle_34 : decode cX8_shuffle 34 = .ok (.aload_n 0, 1) := by decide +kernel
theorem dX8_shuffle_35 : decode cX8_shuffle 35 = .ok (.iload 4, 2) := by decide +kernel
theorem dX8_shuffle_37 : decode cX8_shuffle 37 = .ok (.aload_n 0, 1) := by decide +kernel
theorem dX8_shuffle_38 : decode cX8_shuffle 38 = .ok (.iload 5, 2) := by decide +kernel
theorem dX8_shuffle_40 : decode cX8_shuffle 40 = .ok (.iaload, 1) := by decide +kernel
theorem dX8_shuffle_41 : decode cX8_shuffle 41 = .ok (.iastore, 1) := by decide +kernel
theorem dX8_shuffle_42 : decode cX8_shuffle 42 = .ok (.aload_n 0, 1) := by decide +kernel
theorem dX8_shuffle_43 : decode cX8_shuffle 43 = .ok (.iload 5, 2) := by decide +kernel
theorem dX8_shuffle_45 : decode cX8_shuffle 45 = .ok (.iload 6, 2) := by decide +kernel
theorem dX8_shuffle_47 : decode cX8_shuffle 47 = .ok (.iastore, 1) := by decide +kernel
theorem dX8_shuffle_48 : decode cX8_shuffle 48 = .ok (.iinc 4 (-1), 3) := by decide +kernel
theorem dX8_shuffle_51 : decode cX8_shuffle 51 = .ok (.goto (-44), 3) := by decide +kernel
theorem dX8_shuffle_54 : decode cX8_shuffle 54 = .ok (.iload_n 3, 1) := by decide +kernel
theorem dX8_shuffle_55 : decode cX8_shuffle 55 = .ok (.ireturn, 1) := by decide +kernel
theorem dX8_undo_0 : decode cX8_undo 0 = .ok (.aload_n 0, 1) := by decide +kernel
theorem dX8_undo_1 : decode cX8_undo 1 = .ok (.getfield 38, 3) := by decide +kernel
theorem dX8_undo_4 : decode cX8_undo 4 = .ok (.getfield 314, 3) := by decide +kernel
theorem dX8_undo_7 : decode cX8_undo 7 = .ok (.ifCond .ne 6, 3) := by decide +kernel
theorem dX8_undo_10 : decode cX8_undo 10 = .ok (.bipush (-5), 2) := by decide +kernel
theorem dX8_undo_12 : decode cX8_undo 12 = .ok (.ireturn, 1) := by decide +kernel
theorem dX8_undo_13 : decode cX8_undo 13 = .ok (.aload_n 0, 1) := by decide +kernel
theorem dX8_undo_14 : decode cX8_undo 14 = .ok (.getfield 38, 3) := by decide +kernel
theorem dX8_undo_17 : decode cX8_undo 17 = .ok (.dup, 1) := by decide +kernel
theorem dX8_undo_18 : decode cX8_undo 18 = .ok (.getfield 314, 3) := by decide +kernel
theorem dX8_undo_21 : decode cX8_undo 21 = .ok (.iconst 1, 1) := by decide +kernel
theorem dX8_undo_22 : decode cX8_undo 22 = .ok (.isub, 1) := by decide +kernel
theorem dX8_undo_23 : decode cX8_undo 23 = .ok (.putfield 314, 3) := by decide +kernel
theorem dX8_undo_26 : decode cX8_undo 26 = .ok (.aload_n 0, 1) := by decide +kernel
theorem dX8_undo_27 : decode cX8_undo 27 = .ok (.aload_n 0, 1) := by decide +kernel
theorem dX8_undo_28 : decode cX8_undo 28 = .ok (.getfield 38, 3) := by decide +kernel
theorem dX8_undo_31 : decode cX8_undo 31 = .ok (.getfield 314, 3) := by decide +kernel
theorem dX8_undo_34 : decode cX8_undo 34 = .ok (.aload_n 0, 1) := by decide +kernel
theorem dX8_undo_35 : decode cX8_undo 35 = .ok (.getfield 38, 3) := by decide +kernel
theorem dX8_undo_38 : decode cX8_undo 38 = .ok (.getfield 317, 3) := by decide +kernel
theorem dX8_undo_41 : decode cX8_undo 41 = .ok (.aload_n 0, 1) := by decide +kernel
theorem dX8_undo_42 : decode cX8_undo 42 = .ok (.getfield 38, 3) := by decide +kernel
theorem dX8_undo_45 : decode cX8_undo 45 = .ok (.getfield 314, 3) := by decide +kernel
theorem dX8_undo_48 : decode cX8_undo 48 = .ok (.iaload, 1) := by decide +kernel
theorem dX8_undo_49 : decode cX8_undo 49 = .ok (.invokevirtual 320, 3) := by decide +kernel
theorem dX8_undo_52 : decode cX8_undo 52 = .ok (.aload_n 0, 1) := by decide +kernel
theorem dX8_undo_53 : decode cX8_undo 53 = .ok (.getfield 38, 3) := by decide +kernel
theorem dX8_undo_56 : decode cX8_undo 56 = .ok (.getfield 314, 3) := by decide +kernel
theorem dX8_undo_59 : decode cX8_undo 59 = .ok (.ireturn, 1) := by decide +kernel
theorem dX8_redo_0 : decode cX8_redo 0 = .ok (.aload_n 0, 1) := by decide +kernel
theorem dX8_redo_1 : decode cX8_redo 1 = .ok (.getfield 38, 3) := by decide +kernel
theorem dX8_redo_4 : decode cX8_redo 4 = .ok (.getfield 314, 3) := by decide +kernel
theorem dX8_redo_7 : decode cX8_redo 7 = .ok (.aload_n 0, 1) := by decide +kernel
theorem dX8_redo_8 : decode cX8_redo 8 = .ok (.getfield 38, 3) := by decide +kernel
theorem dX8_redo_11 : decode cX8_redo 11 = .ok (.getfield 324, 3) := by decide +kernel
theorem dX8_redo_14 : decode cX8_redo 14 = .ok (.if_icmp .lt 6, 3) := by decide +kernel
theorem dX8_redo_17 : decode cX8_redo 17 = .ok (.bipush (-5), 2) := by decide +kernel
theorem dX8_redo_19 : decode cX8_redo 19 = .ok (.ireturn, 1) := by decide +kernel
theorem dX8_redo_20 : decode cX8_redo 20 = .ok (.aload_n 0, 1) := by decide +kernel
theorem dX8_redo_21 : decode cX8_redo 21 = .ok (.getfield 38, 3) := by decide +kernel
theorem dX8_redo_24 : decode cX8_redo 24 = .ok (.dup, 1) := by decide +kernel
theorem dX8_redo_25 : decode cX8_redo 25 = .ok (.getfield 314, 3) := by decide +kernel
theorem dX8_redo_28 : decode cX8_redo 28 = .ok (.iconst 1, 1) := by decide +kernel
theorem dX8_redo_29 : decode cX8_redo 29 = .ok (.iadd, 1) := by decide +kernel
theorem dX8_redo_30 : decode cX8_redo 30 = .ok (.putfield 314, 3) := by decide +kernel
theorem dX8_redo_33 : decode cX8_redo 33 = .ok (.aload_n 0, 1) := by decide +kernel
theorem dX8_redo_34 : decode cX8_redo 34 = .ok (.aload_n 0, 1) := by decide +kernel
theorem dX8_redo_35 : decode cX8_redo 35 = .ok (.getfield 38, 3) := by decide +kernel
theorem dX8_redo_38 : decode cX8_redo 38 = .ok (.getfield 314, 3) := by decide +kernel
theorem dX8_redo_41 : decode cX8_redo 41 = .ok (.iconst 1, 1) := by decide +kernel
theorem dX8_redo_42 : decode cX8_redo 42 = .ok (.isub, 1) := by decide +kernel
theorem dX8_redo_43 : decode cX8_redo 43 = .ok (.aload_n 0, 1) := by decide +kernel
theorem dX8_redo_44 : decode cX8_redo 44 = .ok (.getfield 38, 3) := by decide +kernel
theorem dX8_redo_47 : decode cX8_redo 47 = .ok (.getfield 325, 3) := by decide +kernel
theorem dX8_redo_50 : decode cX8_redo 50 = .ok (.aload_n 0, 1) := by decide +kernel
theorem dX8_redo_51 : decode cX8_redo 51 = .ok (.getfield 38, 3) := by decide +kernel
theorem dX8_redo_54 : decode cX8_redo 54 = .ok (.getfield 314, 3) := by decide +kernel
theorem dX8_redo_57 : decode cX8_redo 57 = .ok (.iconst 1, 1) := by decide +kernel
theorem dX8_redo_58 : decode cX8_redo 58 = .ok (.isub, 1) := by decide +kernel
theorem dX8_redo_59 : decode cX8_redo 59 = .ok (.iaload, 1) := by decide +kernel
theorem dX8_redo_60 : decode cX8_redo 60 = .ok (.invokevirtual 320, 3) := by decide +kernel
theorem dX8_redo_63 : decode cX8_redo 63 = .ok (.aload_n 0, 1) := by decide +kernel
theorem dX8_redo_64 : decode cX8_redo 64 = .ok (.getfield 38, 3) := by decide +kernel
theorem dX8_redo_67 : decode cX8_redo 67 = .ok (.getfield 324, 3) := by decide +kernel
theorem dX8_redo_70 : decode cX8_redo 70 = .ok (.aload_n 0, 1) := by decide +kernel
theorem dX8_redo_71 : decode cX8_redo 71 = .ok (.getfield 38, 3) := by decide +kernel
theorem dX8_redo_74 : decode cX8_redo 74 = .ok (.getfield 314, 3) := by decide +kernel
theorem dX8_redo_77 : decode cX8_redo 77 = .ok (.isub, 1) := by decide +kernel
theorem dX8_redo_78 : decode cX8_redo 78 = .ok (.ireturn, 1) := by decide +kernel
theorem dX8_apply_0 : decode cX8_apply 0 = .ok (.aload_n 0, 1) := by decide +kernel
theorem dX8_apply_1 : decode cX8_apply 1 = .ok (.aload_n 0, 1) := by decide +kernel
theorem dX8_apply_2 : decode cX8_apply 2 = .ok (.getfield 38, 3) := by decide +kernel
theorem dX8_apply_5 : decode cX8_apply 5 = .ok (.getfield 328, 3) := by decide +kernel
theorem dX8_apply_8 : decode cX8_apply 8 = .ok (.iload_n 1, 1) := by decide +kernel
theorem dX8_apply_9 : decode cX8_apply 9 = .ok (.iaload, 1) := by decide +kernel
theorem dX8_apply_10 : decode cX8_apply 10 = .ok (.invokevirtual 147, 3) := by decide +kernel
theorem dX8_apply_13 : decode cX8_apply 13 = .ok (.astore_n 3, 1) := by decide +kernel
theorem dX8_apply_14 : decode cX8_apply 14 = .ok (.aload_n 0, 1) := by decide +kernel
theorem dX8_apply_15 : decode cX8_apply 15 = .ok (.getfield 38, 3) := by decide +kernel
theorem dX8_apply_18 : decode cX8_apply 18 = .ok (.getfield 330, 3) := by decide +kernel
theorem dX8_apply_21 : decode cX8_apply 21 = .ok (.iload_n 1, 1) := by decide +kernel
theorem dX8_apply_22 : decode cX8_apply 22 = .ok (.iaload, 1) := by decide +kernel
theorem dX8_apply_23 : decode cX8_apply 23 = .ok (.istore 4, 2) := by decide +kernel
theorem dX8_apply_25 : decode cX8_apply 25 = .ok (.aload_n 3, 1) := by decide +kernel
theorem dX8_apply_26 : decode cX8_apply 26 = .ok (.ifnonnull 29, 3) := by decide +kernel
theorem dX8_apply_29 : decode cX8_apply 29 = .ok (.aload_n 0, 1) := by decide +kernel
theorem dX8_apply_30 : decode cX8_apply 30 = .ok (.getfield 10, 3) := by decide +kernel
theorem dX8_apply_33 : decode cX8_apply 33 = .ok (.iload 4, 2) := by decide +kernel
theorem dX8_apply_35 : decode cX8_apply 35 = .ok (.invokevirtual 95, 3) := by decide +kernel
theorem dX8_apply_38 : decode cX8_apply 38 = .ok (.ifCond .eq 17, 3) := by decide +kernel
theorem dX8_apply_41 : decode cX8_apply 41 = .ok (.aload_n 0, 1) := by decide +kernel
theorem dX8_apply_42 : decode cX8_apply 42 = .ok (.getfield 10, 3) := by decide +kernel
theorem dX8_apply_45 : decode cX8_apply 45 = .ok (.getfield 92, 3) := by decide +kernel
theorem dX8_apply_48 : decode cX8_apply 48 = .ok (.iload 4, 2) := by decide +kernel
theorem dX8_apply_50 : decode cX8_apply 50 = .ok (.iload_n 2, 1) := by decide +kernel
theorem dX8_apply_51 : decode cX8_apply 51 = .ok (.iastore, 1) := by decide +kernel
theorem dX8_apply_52 : decode cX8_apply 52 = .ok (.goto 39, 3) := by decide +kernel
theorem dX8_apply_55 : decode cX8_apply 55 = .ok (.aload_n 3, 1) := by decide +kernel
theorem dX8_apply_56 : decode cX8_apply 56 = .ok (.ifnull 26, 3) := by decide +kernel
theorem dX8_apply_59 : decode cX8_apply 59 = .ok (.aload_n 0, 1) := by decide +kernel
theorem dX8_apply_60 : decode cX8_apply 60 = .ok (.getfield 10, 3) := by decide +kernel
theorem dX8_apply_63 : decode cX8_apply 63 = .ok (.iload 4, 2) := by decide +kernel
theorem dX8_apply_65 : decode cX8_apply 65 = .ok (.invokevirtual 95, 3) := by decide +kernel
theorem dX8_apply_68 : decode cX8_apply 68 = .ok (.ifCond .eq 14, 3) := by decide +kernel
theorem dX8_apply_71 : decode cX8_apply 71 = .ok (.aload_n 3, 1) := by decide +kernel
theorem dX8_apply_72 : decode cX8_apply 72 = .ok (.getfield 167, 3) := by decide +kernel
theorem dX8_apply_75 : decode cX8_apply 75 = .ok (.iload 4, 2) := by decide +kernel
theorem dX8_apply_77 : decode cX8_apply 77 = .ok (.iload_n 2, 1) := by decide +kernel
theorem dX8_apply_78 : decode cX8_apply 78 = .ok (.iastore, 1) := by decide +kernel
theorem dX8_apply_79 : decode cX8_apply 79 = .ok (.goto 12, 3) := by decide +kernel
theorem dX8_apply_82 : decode cX8_apply 82 = .ok (.aload_n 3, 1) := by decide +kernel
theorem dX8_apply_83 : decode cX8_apply 83 = .ok (.ifnull 8, 3) := by decide +kernel
theorem dX8_apply_86 : decode cX8_apply 86 = .ok (.aload_n 3, 1) := by decide +kernel
theorem dX8_apply_87 : decode cX8_apply 87 = .ok (.iload_n 2, 1) := by decide +kernel
theorem dX8_apply_88 : decode cX8_apply 88 = .ok (.putfield 144, 3) := by decide +kernel
theorem dX8_apply_91 : decode cX8_apply 91 = .ok (.return_, 1) := by decide +kernel
theorem dX8_body_0 : decode cX8_body 0 = .ok (.iload_n 1, 1) := by decide +kernel
theorem dX8_body_1 : decode cX8_body 1 = .ok (.ifCond .lt 9, 3) := by decide +kernel
theorem dX8_body_4 : decode cX8_body 4 = .ok (.iload_n 1, 1) := by decide +kernel
theorem dX8_body_5 : decode cX8_body 5 = .ok (.bipush 8, 2) := by decide +kernel
theorem dX8_body_7 : decode cX8_body 7 = .ok (.if_icmp .lt 5, 3) := by decide +kernel
theorem dX8_body_10 : decode cX8_body 10 = .ok (.iconst (-1), 1) := by decide +kernel
theorem dX8_body_11 : decode cX8_body 11 = .ok (.ireturn, 1) := by decide +kernel
theorem dX8_body_12 : decode cX8_body 12 = .ok (.aload_n 0, 1) := by decide +kernel
theorem dX8_body_13 : decode cX8_body 13 = .ok (.getfield 45, 3) := by decide +kernel
theorem dX8_body_16 : decode cX8_body 16 = .ok (.getfield 332, 3) := by decide +kernel
theorem dX8_body_19 : decode cX8_body 19 = .ok (.bipush 50, 2) := by decide +kernel
theorem dX8_body_21 : decode cX8_body 21 = .ok (.if_icmp .lt 6, 3) := by decide +kernel
theorem dX8_body_24 : decode cX8_body 24 = .ok (.bipush (-3), 2) := by decide +kernel
theorem dX8_body_26 : decode cX8_body 26 = .ok (.ireturn, 1) := by decide +kernel
theorem dX8_body_27 : decode cX8_body 27 = .ok (.aload_n 0, 1) := by decide +kernel
theorem dX8_body_28 : decode cX8_body 28 = .ok (.getfield 45, 3) := by decide +kernel
theorem dX8_body_31 : decode cX8_body 31 = .ok (.getfield 333, 3) := by decide +kernel
theorem dX8_body_34 : decode cX8_body 34 = .ok (.aload_n 0, 1) := by decide +kernel
theorem dX8_body_35 : decode cX8_body 35 = .ok (.getfield 45, 3) := by decide +kernel
theorem dX8_body_38 : decode cX8_body 38 = .ok (.getfield 332, 3) := by decide +kernel
theorem dX8_body_41 : decode cX8_body 41 = .ok (.iload_n 1, 1) := by decide +kernel
theorem dX8_body_42 : decode cX8_body 42 = .ok (.iastore, 1) := by decide +kernel
theorem dX8_body_43 : decode cX8_body 43 = .ok (.aload_n 0, 1) := by decide +kernel
theorem dX8_body_44 : decode cX8_body 44 = .ok (.getfield 45, 3) := by decide +kernel
theorem dX8_body_47 : decode cX8_body 47 = .ok (.dup, 1) := by decide +kernel
theorem dX8_body_48 : decode cX8_body 48 = .ok (.getfield 332, 3) := by decide +kernel
theorem dX8_body_51 : decode cX8_body 51 = .ok (.iconst 1, 1) := by decide +kernel
theorem dX8_body_52 : decode cX8_body 52 = .ok (.iadd, 1) := by decide +kernel
theorem dX8_body_53 : decode cX8_body 53 = .ok (.putfield 332, 3) := by decide +kernel
theorem dX8_body_56 : decode cX8_body 56 = .ok (.aload_n 0, 1) := by decide +kernel
theorem dX8_body_57 : decode cX8_body 57 = .ok (.getfield 45, 3) := by decide +kernel
theorem dX8_body_60 : decode cX8_body 60 = .ok (.getfield 332, 3) := by decide +kernel
theorem dX8_body_63 : decode cX8_body 63 = .ok (.iconst 1, 1) := by decide +kernel
theorem dX8_body_64 : decode cX8_body 64 = .ok (.isub, 1) := by decide +kernel
theorem dX8_body_65 : decode cX8_body 65 = .ok (.ireturn, 1) := by decide +kernel
theorem dX8_act_0 : decode cX8_act 0 = .ok (.aload_n 0, 1) := by decide +kernel
theorem dX8_act_1 : decode cX8_act 1 = .ok (.getfield 45, 3) := by decide +kernel
theorem dX8_act_4 : decode cX8_act 4 = .ok (.iload_n 1, 1) := by decide +kernel
theorem dX8_act_5 : decode cX8_act 5 = .ok (.iload_n 2, 1) := by decide +kernel
theorem dX8_act_6 : decode cX8_act 6 = .ok (.iload_n 3, 1) := by decide +kernel
theorem dX8_act_7 : decode cX8_act 7 = .ok (.invokevirtual 336, 3) := by decide +kernel
theorem dX8_act_10 : decode cX8_act 10 = .ok (.ireturn, 1) := by decide +kernel
theorem dX8_trace_0 : decode cX8_trace 0 = .ok (.iload_n 1, 1) := by decide +kernel
theorem dX8_trace_1 : decode cX8_trace 1 = .ok (.ifCond .lt 20, 3) := by decide +kernel
theorem dX8_trace_4 : decode cX8_trace 4 = .ok (.iload_n 1, 1) := by decide +kernel
theorem dX8_trace_5 : decode cX8_trace 5 = .ok (.aload_n 0, 1) := by decide +kernel
theorem dX8_trace_6 : decode cX8_trace 6 = .ok (.getfield 45, 3) := by decide +kernel
theorem dX8_trace_9 : decode cX8_trace 9 = .ok (.getfield 340, 3) := by decide +kernel
theorem dX8_trace_12 : decode cX8_trace 12 = .ok (.if_icmp .ge 9, 3) := by decide +kernel
theorem dX8_trace_15 : decode cX8_trace 15 = .ok (.iload_n 1, 1) := by decide +kernel
theorem dX8_trace_16 : decode cX8_trace 16 = .ok (.bipush 24, 2) := by decide +kernel
theorem dX8_trace_18 : decode cX8_trace 18 = .ok (.if_icmp .lt 5, 3) := by decide +kernel
theorem dX8_trace_21 : decode cX8_trace 21 = .ok (.iconst (-1), 1) := by decide +kernel
theorem dX8_trace_22 : decode cX8_trace 22 = .ok (.ireturn, 1) := by decide +kernel
theorem dX8_trace_23 : decode cX8_trace 23 = .ok (.aload_n 0, 1) := by decide +kernel
theorem dX8_trace_24 : decode cX8_trace 24 = .ok (.getfield 45, 3) := by decide +kernel
theorem dX8_trace_27 : decode cX8_trace 27 = .ok (.getfield 343, 3) := by decide +kernel
theorem dX8_trace_30 : decode cX8_trace 30 = .ok (.iload_n 1, 1) := by decide +kernel
theorem dX8_trace_31 : decode cX8_trace 31 = .ok (.iaload, 1) := by decide +kernel
theorem dX8_trace_32 : decode cX8_trace 32 = .ok (.ireturn, 1) := by decide +kernel
theorem dX8_keep_0 : decode cX8_keep 0 = .ok (.aload_n 0, 1) := by decide +kernel
theorem dX8_keep_1 : decode cX8_keep 1 = .ok (.iload_n 1, 1) := by decide +kernel
theorem dX8_keep_2 : decode cX8_keep 2 = .ok (.invokevirtual 186, 3) := by decide +kernel
theorem dX8_keep_5 : decode cX8_keep 5 = .ok (.astore_n 3, 1) := by decide +kernel
theorem dX8_keep_6 : decode cX8_keep 6 = .ok (.aload_n 3, 1) := by decide +kernel
theorem dX8_keep_7 : decode cX8_keep 7 = .ok (.ifnull 19, 3) := by decide +kernel
theorem dX8_keep_10 : decode cX8_keep 10 = .ok (.iload_n 2, 1) := by decide +kernel
theorem dX8_keep_11 : decode cX8_keep 11 = .ok (.iconst (-1), 1) := by decide +kernel
theorem dX8_keep_12 : decode cX8_keep 12 = .ok (.if_icmp .eq 16, 3) := by decide +kernel
theorem dX8_keep_15 : decode cX8_keep 15 = .ok (.aload_n 0, 1) := by decide +kernel
theorem dX8_keep_16 : decode cX8_keep 16 = .ok (.getfield 45, 3) := by decide +kernel
theorem dX8_keep_19 : decode cX8_keep 19 = .ok (.iload_n 2, 1) := by decide +kernel
theorem dX8_keep_20 : decode cX8_keep 20 = .ok (.invokevirtual 346, 3) := by decide +kernel
theorem dX8_keep_23 : decode cX8_keep 23 = .ok (.ifCond .ne 5, 3) := by decide +kernel
theorem dX8_keep_26 : decode cX8_keep 26 = .ok (.iconst (-1), 1) := by decide +kernel
theorem dX8_keep_27 : decode cX8_keep 27 = .ok (.ireturn, 1) := by decide +kernel
theorem dX8_keep_28 : decode cX8_keep 28 = .ok (.aload_n 3, 1) := by decide +kernel
theorem dX8_keep_29 : decode cX8_keep 29 = .ok (.iload_n 2, 1) := by decide +kernel
theorem dX8_keep_30 : decode cX8_keep 30 = .ok (.ifCond .ge 7, 3) := by decide +kernel
theorem dX8_keep_33 : decode cX8_keep 33 = .ok (.iconst 0, 1) := by decide +kernel
theorem dX8_keep_34 : decode cX8_keep 34 = .ok (.goto 4, 3) := by decide +kernel
theorem dX8_keep_37 : decode cX8_keep 37 = .ok (.iconst 1, 1) := by decide +kernel
theorem dX8_keep_38 : decode cX8_keep 38 = .ok (.putfield 190, 3) := by decide +kernel
theorem dX8_keep_41 : decode cX8_keep 41 = .ok (.aload_n 3, 1) := by decide +kernel
theorem dX8_keep_42 : decode cX8_keep 42 = .ok (.iload_n 2, 1) := by decide +kernel
theorem dX8_keep_43 : decode cX8_keep 43 = .ok (.putfield 347, 3) := by decide +kernel
theorem dX8_keep_46 : decode cX8_keep 46 = .ok (.iconst 1, 1) := by decide +kernel
theorem dX8_keep_47 : decode cX8_keep 47 = .ok (.ireturn, 1) := by decide +kernel
theorem dX8_row_0 : decode cX8_row 0 = .ok (.aload_n 0, 1) := by decide +kernel
theorem dX8_row_1 : decode cX8_row 1 = .ok (.iload_n 1, 1) := by decide +kernel
theorem dX8_row_2 : decode cX8_row 2 = .ok (.invokevirtual 186, 3) := by decide +kernel
theorem dX8_row_5 : decode cX8_row 5 = .ok (.astore 4, 2) := by decide +kernel
theorem dX8_row_7 : decode cX8_row 7 = .ok (.aload 4, 2) := by decide +kernel
theorem dX8_row_9 : decode cX8_row 9 = .ok (.ifnull 18, 3) := by decide +kernel
theorem dX8_row_12 : decode cX8_row 12 = .ok (.iload_n 2, 1) := by decide +kernel
theorem dX8_row_13 : decode cX8_row 13 = .ok (.ifCond .lt 14, 3) := by decide +kernel
theorem dX8_row_16 : decode cX8_row 16 = .ok (.iload_n 2, 1) := by decide +kernel
theorem dX8_row_17 : decode cX8_row 17 = .ok (.iconst 4, 1) := by decide +kernel
theorem dX8_row_18 : decode cX8_row 18 = .ok (.if_icmp .gt 9, 3) := by decide +kernel
theorem dX8_row_21 : decode cX8_row 21 = .ok (.iload_n 3, 1) := by decide +kernel
theorem dX8_row_22 : decode cX8_row 22 = .ok (.bipush 60, 2) := by decide +kernel
theorem dX8_row_24 : decode cX8_row 24 = .ok (.if_icmp .le 5, 3) := by decide +kernel
theorem dX8_row_27 : decode cX8_row 27 = .ok (.iconst (-1), 1) := by decide +kernel
theorem dX8_row_28 : decode cX8_row 28 = .ok (.ireturn, 1) := by decide +kernel
theorem dX8_row_29 : decode cX8_row 29 = .ok (.iload_n 3, 1) := by decide +kernel
theorem dX8_row_30 : decode cX8_row 30 = .ok (.ifCond .ge 6, 3) := by decide +kernel
theorem dX8_row_33 : decode cX8_row 33 = .ok (.bipush (-14), 2) := by decide +kernel
theorem dX8_row_35 : decode cX8_row 35 = .ok (.ireturn, 1) := by decide +kernel
theorem dX8_row_36 : decode cX8_row 36 = .ok (.aload 4, 2) := by decide +kernel
theorem dX8_row_38 : decode cX8_row 38 = .ok (.iconst 2, 1) := by decide +kernel
theorem dX8_row_39 : decode cX8_row 39 = .ok (.putfield 190, 3) := by decide +kernel
theorem dX8_row_42 : decode cX8_row 42 = .ok (.aload 4, 2) := by decide +kernel
theorem dX8_row_44 : decode cX8_row 44 = .ok (.iload_n 2, 1) := by decide +kernel
theorem dX8_row_45 : decode cX8_row 45 = .ok (.putfield 193, 3) := by decide +kernel
theorem dX8_row_48 : decode cX8_row 48 = .ok (.aload 4, 2) := by decide +kernel
theorem dX8_row_50 : decode cX8_row 50 = .ok (.iload_n 3, 1) := by decide +kernel
theorem dX8_row_51 : decode cX8_row 51 = .ok (.putfield 350, 3) := by decide +kernel
theorem dX8_row_54 : decode cX8_row 54 = .ok (.aload 4, 2) := by decide +kernel
theorem dX8_row_56 : decode cX8_row 56 = .ok (.getfield 197, 3) := by decide +kernel
theorem dX8_row_59 : decode cX8_row 59 = .ok (.lconst 0, 1) := by decide +kernel
theorem dX8_row_60 : decode cX8_row 60 = .ok (.invokestatic 351, 3) := by decide +kernel
theorem dX8_row_63 : decode cX8_row 63 = .ok (.iconst 1, 1) := by decide +kernel
theorem dX8_row_64 : decode cX8_row 64 = .ok (.ireturn, 1) := by decide +kernel
theorem dX8_put_0 : decode cX8_put 0 = .ok (.aload_n 0, 1) := by decide +kernel
