theorem dX8_put_1 : decode cX8_put 1 = .ok (.iload_n 1, 1) := by decide +kernel
theorem dX8_put_2 : decode cX8_put 2 = .ok (.invokevirtual 186, 3) := by decide +kernel
theorem dX8_put_5 : decode cX8_put 5 = .ok (.astore 5, 2) := by decide +kernel
theorem dX8_put_7 : decode cX8_put 7 = .ok (.aload 5, 2) := by decide +kernel
theorem dX8_put_9 : decode cX8_put 9 = .ok (.iload_n 2, 1) := by decide +kernel
theorem dX8_put_10 : decode cX8_put 10 = .ok (.invokestatic 354, 3) := by decide +kernel
theorem dX8_put_13 : decode cX8_put 13 = .ok (.istore 6, 2) := by decide +kernel
theorem dX8_put_15 : decode cX8_put 15 = .ok (.aload 5, 2) := by decide +kernel
theorem dX8_put_17 : decode cX8_put 17 = .ok (.ifnull 8, 3) := by decide +kernel
theorem dX8_put_20 : decode cX8_put 20 = .ok (.iload 6, 2) := by decide +kernel
theorem dX8_put_22 : decode cX8_put 22 = .ok (.ifCond .eq 6, 3) := by decide +kernel
theorem dX8_put_25 : decode cX8_put 25 = .ok (.iload 6, 2) := by decide +kernel
theorem dX8_put_27 : decode cX8_put 27 = .ok (.ireturn, 1) := by decide +kernel
theorem dX8_put_28 : decode cX8_put 28 = .ok (.aload 5, 2) := by decide +kernel
theorem dX8_put_30 : decode cX8_put 30 = .ok (.getfield 197, 3) := by decide +kernel
theorem dX8_put_33 : decode cX8_put 33 = .ok (.iload_n 2, 1) := by decide +kernel
theorem dX8_put_34 : decode cX8_put 34 = .ok (.aload 5, 2) := by decide +kernel
theorem dX8_put_36 : decode cX8_put 36 = .ok (.lload_n 3, 1) := by decide +kernel
theorem dX8_put_37 : decode cX8_put 37 = .ok (.invokevirtual 358, 3) := by decide +kernel
theorem dX8_put_40 : decode cX8_put 40 = .ok (.lastore, 1) := by decide +kernel
theorem dX8_put_41 : decode cX8_put 41 = .ok (.iconst 1, 1) := by decide +kernel
theorem dX8_put_42 : decode cX8_put 42 = .ok (.ireturn, 1) := by decide +kernel
theorem dX8_element_0 : decode cX8_element 0 = .ok (.aload_n 0, 1) := by decide +kernel
theorem dX8_element_1 : decode cX8_element 1 = .ok (.iload_n 1, 1) := by decide +kernel
theorem dX8_element_2 : decode cX8_element 2 = .ok (.invokevirtual 186, 3) := by decide +kernel
theorem dX8_element_5 : decode cX8_element 5 = .ok (.astore_n 3, 1) := by decide +kernel
theorem dX8_element_6 : decode cX8_element 6 = .ok (.aload_n 3, 1) := by decide +kernel
theorem dX8_element_7 : decode cX8_element 7 = .ok (.ifnull 11, 3) := by decide +kernel
theorem dX8_element_10 : decode cX8_element 10 = .ok (.aload_n 3, 1) := by decide +kernel
theorem dX8_element_11 : decode cX8_element 11 = .ok (.iload_n 2, 1) := by decide +kernel
theorem dX8_element_12 : decode cX8_element 12 = .ok (.invokestatic 354, 3) := by decide +kernel
theorem dX8_element_15 : decode cX8_element 15 = .ok (.ifCond .eq 9, 3) := by decide +kernel
theorem dX8_element_18 : decode cX8_element 18 = .ok (.ldc2_w 362, 3) := by decide +kernel
theorem dX8_element_21 : decode cX8_element 21 = .ok (.goto 9, 3) := by decide +kernel
theorem dX8_element_24 : decode cX8_element 24 = .ok (.aload_n 3, 1) := by decide +kernel
theorem dX8_element_25 : decode cX8_element 25 = .ok (.getfield 197, 3) := by decide +kernel
theorem dX8_element_28 : decode cX8_element 28 = .ok (.iload_n 2, 1) := by decide +kernel
theorem dX8_element_29 : decode cX8_element 29 = .ok (.laload, 1) := by decide +kernel
theorem dX8_element_30 : decode cX8_element 30 = .ok (.lreturn, 1) := by decide +kernel
theorem dX8_refusalOf_0 : decode cX8_refusalOf 0 = .ok (.aload_n 0, 1) := by decide +kernel
theorem dX8_refusalOf_1 : decode cX8_refusalOf 1 = .ok (.ifnonnull 5, 3) := by decide +kernel
theorem dX8_refusalOf_4 : decode cX8_refusalOf 4 = .ok (.iconst (-1), 1) := by decide +kernel
theorem dX8_refusalOf_5 : decode cX8_refusalOf 5 = .ok (.ireturn, 1) := by decide +kernel
theorem dX8_refusalOf_6 : decode cX8_refusalOf 6 = .ok (.aload_n 0, 1) := by decide +kernel
theorem dX8_refusalOf_7 : decode cX8_refusalOf 7 = .ok (.getfield 190, 3) := by decide +kernel
theorem dX8_refusalOf_10 : decode cX8_refusalOf 10 = .ok (.ifCond .ne 6, 3) := by decide +kernel
theorem dX8_refusalOf_13 : decode cX8_refusalOf 13 = .ok (.bipush (-11), 2) := by decide +kernel
theorem dX8_refusalOf_15 : decode cX8_refusalOf 15 = .ok (.ireturn, 1) := by decide +kernel
theorem dX8_refusalOf_16 : decode cX8_refusalOf 16 = .ok (.aload_n 0, 1) := by decide +kernel
theorem dX8_refusalOf_17 : decode cX8_refusalOf 17 = .ok (.getfield 190, 3) := by decide +kernel
theorem dX8_refusalOf_20 : decode cX8_refusalOf 20 = .ok (.iconst 2, 1) := by decide +kernel
theorem dX8_refusalOf_21 : decode cX8_refusalOf 21 = .ok (.if_icmp .eq 6, 3) := by decide +kernel
theorem dX8_refusalOf_24 : decode cX8_refusalOf 24 = .ok (.bipush (-12), 2) := by decide +kernel
theorem dX8_refusalOf_26 : decode cX8_refusalOf 26 = .ok (.ireturn, 1) := by decide +kernel
theorem dX8_refusalOf_27 : decode cX8_refusalOf 27 = .ok (.aload_n 0, 1) := by decide +kernel
theorem dX8_refusalOf_28 : decode cX8_refusalOf 28 = .ok (.iload_n 1, 1) := by decide +kernel
theorem dX8_refusalOf_29 : decode cX8_refusalOf 29 = .ok (.invokevirtual 196, 3) := by decide +kernel
theorem dX8_refusalOf_32 : decode cX8_refusalOf 32 = .ok (.ifCond .eq 7, 3) := by decide +kernel
theorem dX8_refusalOf_35 : decode cX8_refusalOf 35 = .ok (.iconst 0, 1) := by decide +kernel
theorem dX8_refusalOf_36 : decode cX8_refusalOf 36 = .ok (.goto 5, 3) := by decide +kernel
theorem dX8_refusalOf_39 : decode cX8_refusalOf 39 = .ok (.bipush (-13), 2) := by decide +kernel
theorem dX8_refusalOf_41 : decode cX8_refusalOf 41 = .ok (.ireturn, 1) := by decide +kernel
theorem dX8_shift_0 : decode cX8_shift 0 = .ok (.aload_n 0, 1) := by decide +kernel
theorem dX8_shift_1 : decode cX8_shift 1 = .ok (.iload_n 1, 1) := by decide +kernel
theorem dX8_shift_2 : decode cX8_shift 2 = .ok (.invokevirtual 186, 3) := by decide +kernel
theorem dX8_shift_5 : decode cX8_shift 5 = .ok (.astore 6, 2) := by decide +kernel
theorem dX8_shift_7 : decode cX8_shift 7 = .ok (.aload_n 0, 1) := by decide +kernel
theorem dX8_shift_8 : decode cX8_shift 8 = .ok (.iload_n 3, 1) := by decide +kernel
theorem dX8_shift_9 : decode cX8_shift 9 = .ok (.invokevirtual 186, 3) := by decide +kernel
theorem dX8_shift_12 : decode cX8_shift 12 = .ok (.astore 7, 2) := by decide +kernel
theorem dX8_shift_14 : decode cX8_shift 14 = .ok (.aload 6, 2) := by decide +kernel
theorem dX8_shift_16 : decode cX8_shift 16 = .ok (.ifnull 8, 3) := by decide +kernel
theorem dX8_shift_19 : decode cX8_shift 19 = .ok (.aload 7, 2) := by decide +kernel
theorem dX8_shift_21 : decode cX8_shift 21 = .ok (.ifnonnull 5, 3) := by decide +kernel
theorem dX8_shift_24 : decode cX8_shift 24 = .ok (.iconst (-1), 1) := by decide +kernel
theorem dX8_shift_25 : decode cX8_shift 25 = .ok (.ireturn, 1) := by decide +kernel
theorem dX8_shift_26 : decode cX8_shift 26 = .ok (.aload 6, 2) := by decide +kernel
theorem dX8_shift_28 : decode cX8_shift 28 = .ok (.getfield 190, 3) := by decide +kernel
theorem dX8_shift_31 : decode cX8_shift 31 = .ok (.ifCond .eq 11, 3) := by decide +kernel
theorem dX8_shift_34 : decode cX8_shift 34 = .ok (.aload 7, 2) := by decide +kernel
theorem dX8_shift_36 : decode cX8_shift 36 = .ok (.getfield 190, 3) := by decide +kernel
theorem dX8_shift_39 : decode cX8_shift 39 = .ok (.ifCond .ne 6, 3) := by decide +kernel
theorem dX8_shift_42 : decode cX8_shift 42 = .ok (.bipush (-11), 2) := by decide +kernel
theorem dX8_shift_44 : decode cX8_shift 44 = .ok (.ireturn, 1) := by decide +kernel
theorem dX8_shift_45 : decode cX8_shift 45 = .ok (.aload 6, 2) := by decide +kernel
theorem dX8_shift_47 : decode cX8_shift 47 = .ok (.getfield 190, 3) := by decide +kernel
theorem dX8_shift_50 : decode cX8_shift 50 = .ok (.iconst 2, 1) := by decide +kernel
theorem dX8_shift_51 : decode cX8_shift 51 = .ok (.if_icmp .ne 25, 3) := by decide +kernel
theorem dX8_shift_54 : decode cX8_shift 54 = .ok (.aload 7, 2) := by decide +kernel
theorem dX8_shift_56 : decode cX8_shift 56 = .ok (.getfield 190, 3) := by decide +kernel
theorem dX8_shift_59 : decode cX8_shift 59 = .ok (.iconst 2, 1) := by decide +kernel
theorem dX8_shift_60 : decode cX8_shift 60 = .ok (.if_icmp .ne 16, 3) := by decide +kernel
theorem dX8_shift_63 : decode cX8_shift 63 = .ok (.aload 6, 2) := by decide +kernel
theorem dX8_shift_65 : decode cX8_shift 65 = .ok (.getfield 193, 3) := by decide +kernel
theorem dX8_shift_68 : decode cX8_shift 68 = .ok (.aload 7, 2) := by decide +kernel
theorem dX8_shift_70 : decode cX8_shift 70 = .ok (.getfield 193, 3) := by decide +kernel
theorem dX8_shift_73 : decode cX8_shift 73 = .ok (.if_icmp .eq 6, 3) := by decide +kernel
theorem dX8_shift_76 : decode cX8_shift 76 = .ok (.bipush (-12), 2) := by decide +kernel
theorem dX8_shift_78 : decode cX8_shift 78 = .ok (.ireturn, 1) := by decide +kernel
theorem dX8_shift_79 : decode cX8_shift 79 = .ok (.aload 6, 2) := by decide +kernel
theorem dX8_shift_81 : decode cX8_shift 81 = .ok (.iload_n 2, 1) := by decide +kernel
theorem dX8_shift_82 : decode cX8_shift 82 = .ok (.iload 5, 2) := by decide +kernel
theorem dX8_shift_84 : decode cX8_shift 84 = .ok (.invokevirtual 364, 3) := by decide +kernel
theorem dX8_shift_87 : decode cX8_shift 87 = .ok (.ifCond .eq 15, 3) := by decide +kernel
theorem dX8_shift_90 : decode cX8_shift 90 = .ok (.aload 7, 2) := by decide +kernel
theorem dX8_shift_92 : decode cX8_shift 92 = .ok (.iload 4, 2) := by decide +kernel
theorem dX8_shift_94 : decode cX8_shift 94 = .ok (.iload 5, 2) := by decide +kernel
theorem dX8_shift_96 : decode cX8_shift 96 = .ok (.invokevirtual 364, 3) := by decide +kernel
theorem dX8_shift_99 : decode cX8_shift 99 = .ok (.ifCond .ne 6, 3) := by decide +kernel
theorem dX8_shift_102 : decode cX8_shift 102 = .ok (.bipush (-13), 2) := by decide +kernel
theorem dX8_shift_104 : decode cX8_shift 104 = .ok (.ireturn, 1) := by decide +kernel
theorem dX8_shift_105 : decode cX8_shift 105 = .ok (.aload 6, 2) := by decide +kernel
theorem dX8_shift_107 : decode cX8_shift 107 = .ok (.getfield 197, 3) := by decide +kernel
theorem dX8_shift_110 : decode cX8_shift 110 = .ok (.iload_n 2, 1) := by decide +kernel
theorem dX8_shift_111 : decode cX8_shift 111 = .ok (.aload 7, 2) := by decide +kernel
theorem dX8_shift_113 : decode cX8_shift 113 = .ok (.getfield 197, 3) := by decide +kernel
theorem dX8_shift_116 : decode cX8_shift 116 = .ok (.iload 4, 2) := by decide +kernel
theorem dX8_shift_118 : decode cX8_shift 118 = .ok (.iload 5, 2) := by decide +kernel
theorem dX8_shift_120 : decode cX8_shift 120 = .ok (.invokestatic 301, 3) := by decide +kernel
theorem dX8_shift_123 : decode cX8_shift 123 = .ok (.iload 5, 2) := by decide +kernel
theorem dX8_shift_125 : decode cX8_shift 125 = .ok (.ireturn, 1) := by decide +kernel
theorem dX8_taken_0 : decode cX8_taken 0 = .ok (.aload_n 0, 1) := by decide +kernel
theorem dX8_taken_1 : decode cX8_taken 1 = .ok (.iload_n 1, 1) := by decide +kernel
theorem dX8_taken_2 : decode cX8_taken 2 = .ok (.invokevirtual 186, 3) := by decide +kernel
theorem dX8_taken_5 : decode cX8_taken 5 = .ok (.astore_n 3, 1) := by decide +kernel
theorem dX8_taken_6 : decode cX8_taken 6 = .ok (.aload_n 3, 1) := by decide +kernel
theorem dX8_taken_7 : decode cX8_taken 7 = .ok (.ifnull 13, 3) := by decide +kernel
theorem dX8_taken_10 : decode cX8_taken 10 = .ok (.iload_n 2, 1) := by decide +kernel
theorem dX8_taken_11 : decode cX8_taken 11 = .ok (.ifCond .lt 9, 3) := by decide +kernel
theorem dX8_taken_14 : decode cX8_taken 14 = .ok (.iload_n 2, 1) := by decide +kernel
theorem dX8_taken_15 : decode cX8_taken 15 = .ok (.bipush 8, 2) := by decide +kernel
theorem dX8_taken_17 : decode cX8_taken 17 = .ok (.if_icmp .lt 5, 3) := by decide +kernel
theorem dX8_taken_20 : decode cX8_taken 20 = .ok (.iconst (-1), 1) := by decide +kernel
theorem dX8_taken_21 : decode cX8_taken 21 = .ok (.ireturn, 1) := by decide +kernel
theorem dX8_taken_22 : decode cX8_taken 22 = .ok (.aload_n 3, 1) := by decide +kernel
theorem dX8_taken_23 : decode cX8_taken 23 = .ok (.getfield 190, 3) := by decide +kernel
theorem dX8_taken_26 : decode cX8_taken 26 = .ok (.ifCond .ne 6, 3) := by decide +kernel
theorem dX8_taken_29 : decode cX8_taken 29 = .ok (.bipush (-11), 2) := by decide +kernel
theorem dX8_taken_31 : decode cX8_taken 31 = .ok (.ireturn, 1) := by decide +kernel
theorem dX8_taken_32 : decode cX8_taken 32 = .ok (.aload_n 3, 1) := by decide +kernel
theorem dX8_taken_33 : decode cX8_taken 33 = .ok (.getfield 190, 3) := by decide +kernel
theorem dX8_taken_36 : decode cX8_taken 36 = .ok (.iconst 1, 1) := by decide +kernel
theorem dX8_taken_37 : decode cX8_taken 37 = .ok (.if_icmp .ne 36, 3) := by decide +kernel
theorem dX8_taken_40 : decode cX8_taken 40 = .ok (.aload_n 0, 1) := by decide +kernel
theorem dX8_taken_41 : decode cX8_taken 41 = .ok (.getfield 45, 3) := by decide +kernel
theorem dX8_taken_44 : decode cX8_taken 44 = .ok (.aload_n 3, 1) := by decide +kernel
theorem dX8_taken_45 : decode cX8_taken 45 = .ok (.getfield 347, 3) := by decide +kernel
theorem dX8_taken_48 : decode cX8_taken 48 = .ok (.invokevirtual 346, 3) := by decide +kernel
theorem dX8_taken_51 : decode cX8_taken 51 = .ok (.ifCond .eq 22, 3) := by decide +kernel
theorem dX8_taken_54 : decode cX8_taken 54 = .ok (.aload_n 0, 1) := by decide +kernel
theorem dX8_taken_55 : decode cX8_taken 55 = .ok (.getfield 45, 3) := by decide +kernel
theorem dX8_taken_58 : decode cX8_taken 58 = .ok (.getfield 333, 3) := by decide +kernel
theorem dX8_taken_61 : decode cX8_taken 61 = .ok (.aload_n 3, 1) := by decide +kernel
theorem dX8_taken_62 : decode cX8_taken 62 = .ok (.getfield 347, 3) := by decide +kernel
theorem dX8_taken_65 : decode cX8_taken 65 = .ok (.iaload, 1) := by decide +kernel
theorem dX8_taken_66 : decode cX8_taken 66 = .ok (.iload_n 2, 1) := by decide +kernel
theorem dX8_taken_67 : decode cX8_taken 67 = .ok (.invokestatic 368, 3) := by decide +kernel
theorem dX8_taken_70 : decode cX8_taken 70 = .ok (.ifCond .ne 6, 3) := by decide +kernel
theorem dX8_taken_73 : decode cX8_taken 73 = .ok (.bipush (-12), 2) := by decide +kernel
theorem dX8_taken_75 : decode cX8_taken 75 = .ok (.ireturn, 1) := by decide +kernel
theorem dX8_taken_76 : decode cX8_taken 76 = .ok (.aload_n 0, 1) := by decide +kernel
theorem dX8_taken_77 : decode cX8_taken 77 = .ok (.getfield 45, 3) := by decide +kernel
theorem dX8_taken_80 : decode cX8_taken 80 = .ok (.getfield 333, 3) := by decide +kernel
theorem dX8_taken_83 : decode cX8_taken 83 = .ok (.aload_n 3, 1) := by decide +kernel
theorem dX8_taken_84 : decode cX8_taken 84 = .ok (.getfield 347, 3) := by decide +kernel
theorem dX8_taken_87 : decode cX8_taken 87 = .ok (.iaload, 1) := by decide +kernel
theorem dX8_taken_88 : decode cX8_taken 88 = .ok (.ireturn, 1) := by decide +kernel
theorem dX8_count_0 : decode cX8_count 0 = .ok (.iload_n 1, 1) := by decide +kernel
theorem dX8_count_1 : decode cX8_count 1 = .ok (.tableswitch 93 0 6 #[43, 51, 56, 61, 69, 77, 85], 43) := by decide +kernel
theorem dX8_count_44 : decode cX8_count 44 = .ok (.aload_n 0, 1) := by decide +kernel
theorem dX8_count_45 : decode cX8_count 45 = .ok (.getfield 10, 3) := by decide +kernel
theorem dX8_count_48 : decode cX8_count 48 = .ok (.getfield 88, 3) := by decide +kernel
theorem dX8_count_51 : decode cX8_count 51 = .ok (.ireturn, 1) := by decide +kernel
theorem dX8_count_52 : decode cX8_count 52 = .ok (.aload_n 0, 1) := by decide +kernel
theorem dX8_count_53 : decode cX8_count 53 = .ok (.getfield 110, 3) := by decide +kernel
theorem dX8_count_56 : decode cX8_count 56 = .ok (.ireturn, 1) := by decide +kernel
theorem dX8_count_57 : decode cX8_count 57 = .ok (.aload_n 0, 1) := by decide +kernel
theorem dX8_count_58 : decode cX8_count 58 = .ok (.getfield 128, 3) := by decide +kernel
theorem dX8_count_61 : decode cX8_count 61 = .ok (.ireturn, 1) := by decide +kernel
theorem dX8_count_62 : decode cX8_count 62 = .ok (.aload_n 0, 1) := by decide +kernel
theorem dX8_count_63 : decode cX8_count 63 = .ok (.getfield 19, 3) := by decide +kernel
theorem dX8_count_66 : decode cX8_count 66 = .ok (.getfield 103, 3) := by decide +kernel
theorem dX8_count_69 : decode cX8_count 69 = .ok (.ireturn, 1) := by decide +kernel
theorem dX8_count_70 : decode cX8_count 70 = .ok (.aload_n 0, 1) := by decide +kernel
theorem dX8_count_71 : decode cX8_count 71 = .ok (.getfield 38, 3) := by decide +kernel
theorem dX8_count_74 : decode cX8_count 74 = .ok (.getfield 314, 3) := by decide +kernel
theorem dX8_count_77 : decode cX8_count 77 = .ok (.ireturn, 1) := by decide +kernel
theorem dX8_count_78 : decode cX8_count 78 = .ok (.aload_n 0, 1) := by decide +kernel
theorem dX8_count_79 : decode cX8_count 79 = .ok (.getfield 45, 3) := by decide +kernel
theorem dX8_count_82 : decode cX8_count 82 = .ok (.getfield 332, 3) := by decide +kernel
theorem dX8_count_85 : decode cX8_count 85 = .ok (.ireturn, 1) := by decide +kernel
theorem dX8_count_86 : decode cX8_count 86 = .ok (.aload_n 0, 1) := by decide +kernel
theorem dX8_count_87 : decode cX8_count 87 = .ok (.getfield 45, 3) := by decide +kernel
theorem dX8_count_90 : decode cX8_count 90 = .ok (.getfield 340, 3) := by decide +kernel
theorem dX8_count_93 : decode cX8_count 93 = .ok (.ireturn, 1) := by decide +kernel
theorem dX8_count_94 : decode cX8_count 94 = .ok (.iconst (-1), 1) := by decide +kernel
theorem dX8_count_95 : decode cX8_count 95 = .ok (.ireturn, 1) := by decide +kernel
