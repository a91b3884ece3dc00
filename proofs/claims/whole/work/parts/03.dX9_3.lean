theorem dX9_strong_20 : decode cX9_strong 20 = .ok (.invokevirtual 177, 3) := by decide +kernel
theorem dX9_strong_23 : decode cX9_strong 23 = .ok (.ifCond .eq 26, 3) := by decide +kernel
theorem dX9_strong_26 : decode cX9_strong 26 = .ok (.iload_n 1, 1) := by decide +kernel
theorem dX9_strong_27 : decode cX9_strong 27 = .ok (.bipush 10, 2) := by decide +kernel
theorem dX9_strong_29 : decode cX9_strong 29 = .ok (.idiv, 1) := by decide +kernel
theorem dX9_strong_30 : decode cX9_strong 30 = .ok (.iload_n 1, 1) := by decide +kernel
theorem dX9_strong_31 : decode cX9_strong 31 = .ok (.bipush 10, 2) := by decide +kernel
theorem dX9_strong_33 : decode cX9_strong 33 = .ok (.irem, 1) := by decide +kernel
theorem dX9_strong_34 : decode cX9_strong 34 = .ok (.if_icmp .eq 15, 3) := by decide +kernel
theorem dX9_strong_37 : decode cX9_strong 37 = .ok (.iload_n 2, 1) := by decide +kernel
theorem dX9_strong_38 : decode cX9_strong 38 = .ok (.i2l, 1) := by decide +kernel
theorem dX9_strong_39 : decode cX9_strong 39 = .ok (.lconst 1, 1) := by decide +kernel
theorem dX9_strong_40 : decode cX9_strong 40 = .ok (.ldc2_w 303, 3) := by decide +kernel
theorem dX9_strong_43 : decode cX9_strong 43 = .ok (.invokestatic 102, 3) := by decide +kernel
theorem dX9_strong_46 : decode cX9_strong 46 = .ok (.ifCond .ne 7, 3) := by decide +kernel
theorem dX9_strong_49 : decode cX9_strong 49 = .ok (.ldc_w 291, 3) := by decide +kernel
theorem dX9_strong_52 : decode cX9_strong 52 = .ok (.ireturn, 1) := by decide +kernel
theorem dX9_strong_53 : decode cX9_strong 53 = .ok (.aload_n 0, 1) := by decide +kernel
theorem dX9_strong_54 : decode cX9_strong 54 = .ok (.iload_n 1, 1) := by decide +kernel
theorem dX9_strong_55 : decode cX9_strong 55 = .ok (.bipush 10, 2) := by decide +kernel
theorem dX9_strong_57 : decode cX9_strong 57 = .ok (.idiv, 1) := by decide +kernel
theorem dX9_strong_58 : decode cX9_strong 58 = .ok (.iload_n 2, 1) := by decide +kernel
theorem dX9_strong_59 : decode cX9_strong 59 = .ok (.iload_n 3, 1) := by decide +kernel
theorem dX9_strong_60 : decode cX9_strong 60 = .ok (.invokevirtual 305, 3) := by decide +kernel
theorem dX9_strong_63 : decode cX9_strong 63 = .ok (.aload_n 0, 1) := by decide +kernel
theorem dX9_strong_64 : decode cX9_strong 64 = .ok (.iload_n 1, 1) := by decide +kernel
theorem dX9_strong_65 : decode cX9_strong 65 = .ok (.bipush 10, 2) := by decide +kernel
theorem dX9_strong_67 : decode cX9_strong 67 = .ok (.irem, 1) := by decide +kernel
theorem dX9_strong_68 : decode cX9_strong 68 = .ok (.iload_n 2, 1) := by decide +kernel
theorem dX9_strong_69 : decode cX9_strong 69 = .ok (.iload_n 3, 1) := by decide +kernel
theorem dX9_strong_70 : decode cX9_strong 70 = .ok (.invokevirtual 305, 3) := by decide +kernel
theorem dX9_strong_73 : decode cX9_strong 73 = .ok (.isub, 1) := by decide +kernel
theorem dX9_strong_74 : decode cX9_strong 74 = .ok (.ireturn, 1) := by decide +kernel
theorem dX9_lineBy_0 : decode cX9_lineBy 0 = .ok (.iconst 0, 1) := by decide +kernel
theorem dX9_lineBy_1 : decode cX9_lineBy 1 = .ok (.istore_n 2, 1) := by decide +kernel
theorem dX9_lineBy_2 : decode cX9_lineBy 2 = .ok (.iconst 0, 1) := by decide +kernel
theorem dX9_lineBy_3 : decode cX9_lineBy 3 = .ok (.istore_n 3, 1) := by decide +kernel
theorem dX9_lineBy_4 : decode cX9_lineBy 4 = .ok (.iload_n 3, 1) := by decide +kernel
theorem dX9_lineBy_5 : decode cX9_lineBy 5 = .ok (.aload_n 0, 1) := by decide +kernel
theorem dX9_lineBy_6 : decode cX9_lineBy 6 = .ok (.getfield 99, 3) := by decide +kernel
theorem dX9_lineBy_9 : decode cX9_lineBy 9 = .ok (.if_icmp .ge 28, 3) := by decide +kernel
theorem dX9_lineBy_12 : decode cX9_lineBy 12 = .ok (.iload_n 2, 1) := by decide +kernel
theorem dX9_lineBy_13 : decode cX9_lineBy 13 = .ok (.aload_n 0, 1) := by decide +kernel
theorem dX9_lineBy_14 : decode cX9_lineBy 14 = .ok (.iload_n 1, 1) := by decide +kernel
theorem dX9_lineBy_15 : decode cX9_lineBy 15 = .ok (.iload_n 3, 1) := by decide +kernel
theorem dX9_lineBy_16 : decode cX9_lineBy 16 = .ok (.invokevirtual 194, 3) := by decide +kernel
theorem dX9_lineBy_19 : decode cX9_lineBy 19 = .ok (.aload_n 0, 1) := by decide +kernel
theorem dX9_lineBy_20 : decode cX9_lineBy 20 = .ok (.getfield 70, 3) := by decide +kernel
theorem dX9_lineBy_23 : decode cX9_lineBy 23 = .ok (.iload_n 3, 1) := by decide +kernel
theorem dX9_lineBy_24 : decode cX9_lineBy 24 = .ok (.iaload, 1) := by decide +kernel
theorem dX9_lineBy_25 : decode cX9_lineBy 25 = .ok (.isub, 1) := by decide +kernel
theorem dX9_lineBy_26 : decode cX9_lineBy 26 = .ok (.invokestatic 248, 3) := by decide +kernel
theorem dX9_lineBy_29 : decode cX9_lineBy 29 = .ok (.iadd, 1) := by decide +kernel
theorem dX9_lineBy_30 : decode cX9_lineBy 30 = .ok (.istore_n 2, 1) := by decide +kernel
theorem dX9_lineBy_31 : decode cX9_lineBy 31 = .ok (.iinc 3 1, 3) := by decide +kernel
theorem dX9_lineBy_34 : decode cX9_lineBy 34 = .ok (.goto (-30), 3) := by decide +kernel
theorem dX9_lineBy_37 : decode cX9_lineBy 37 = .ok (.iload_n 2, 1) := by decide +kernel
theorem dX9_lineBy_38 : decode cX9_lineBy 38 = .ok (.ireturn, 1) := by decide +kernel
theorem dX9_lineOf_0 : decode cX9_lineOf 0 = .ok (.iconst 0, 1) := by decide +kernel
theorem dX9_lineOf_1 : decode cX9_lineOf 1 = .ok (.istore_n 2, 1) := by decide +kernel
theorem dX9_lineOf_2 : decode cX9_lineOf 2 = .ok (.iload_n 2, 1) := by decide +kernel
theorem dX9_lineOf_3 : decode cX9_lineOf 3 = .ok (.aload_n 0, 1) := by decide +kernel
theorem dX9_lineOf_4 : decode cX9_lineOf 4 = .ok (.getfield 99, 3) := by decide +kernel
theorem dX9_lineOf_7 : decode cX9_lineOf 7 = .ok (.if_icmp .ge 24, 3) := by decide +kernel
theorem dX9_lineOf_10 : decode cX9_lineOf 10 = .ok (.aload_n 0, 1) := by decide +kernel
theorem dX9_lineOf_11 : decode cX9_lineOf 11 = .ok (.getfield 70, 3) := by decide +kernel
theorem dX9_lineOf_14 : decode cX9_lineOf 14 = .ok (.iload_n 2, 1) := by decide +kernel
theorem dX9_lineOf_15 : decode cX9_lineOf 15 = .ok (.aload_n 0, 1) := by decide +kernel
theorem dX9_lineOf_16 : decode cX9_lineOf 16 = .ok (.iload_n 1, 1) := by decide +kernel
theorem dX9_lineOf_17 : decode cX9_lineOf 17 = .ok (.bipush 10, 2) := by decide +kernel
theorem dX9_lineOf_19 : decode cX9_lineOf 19 = .ok (.irem, 1) := by decide +kernel
theorem dX9_lineOf_20 : decode cX9_lineOf 20 = .ok (.iload_n 2, 1) := by decide +kernel
theorem dX9_lineOf_21 : decode cX9_lineOf 21 = .ok (.invokevirtual 194, 3) := by decide +kernel
theorem dX9_lineOf_24 : decode cX9_lineOf 24 = .ok (.iastore, 1) := by decide +kernel
theorem dX9_lineOf_25 : decode cX9_lineOf 25 = .ok (.iinc 2 1, 3) := by decide +kernel
theorem dX9_lineOf_28 : decode cX9_lineOf 28 = .ok (.goto (-26), 3) := by decide +kernel
theorem dX9_lineOf_31 : decode cX9_lineOf 31 = .ok (.aload_n 0, 1) := by decide +kernel
theorem dX9_lineOf_32 : decode cX9_lineOf 32 = .ok (.iload_n 1, 1) := by decide +kernel
theorem dX9_lineOf_33 : decode cX9_lineOf 33 = .ok (.bipush 10, 2) := by decide +kernel
theorem dX9_lineOf_35 : decode cX9_lineOf 35 = .ok (.idiv, 1) := by decide +kernel
theorem dX9_lineOf_36 : decode cX9_lineOf 36 = .ok (.invokevirtual 308, 3) := by decide +kernel
theorem dX9_lineOf_39 : decode cX9_lineOf 39 = .ok (.ireturn, 1) := by decide +kernel
theorem dX9_line_0 : decode cX9_line 0 = .ok (.aload_n 0, 1) := by decide +kernel
theorem dX9_line_1 : decode cX9_line 1 = .ok (.iload_n 1, 1) := by decide +kernel
theorem dX9_line_2 : decode cX9_line 2 = .ok (.invokevirtual 251, 3) := by decide +kernel
theorem dX9_line_5 : decode cX9_line 5 = .ok (.ifCond .eq 11, 3) := by decide +kernel
theorem dX9_line_8 : decode cX9_line 8 = .ok (.aload_n 0, 1) := by decide +kernel
theorem dX9_line_9 : decode cX9_line 9 = .ok (.iload_n 1, 1) := by decide +kernel
theorem dX9_line_10 : decode cX9_line 10 = .ok (.invokevirtual 311, 3) := by decide +kernel
theorem dX9_line_13 : decode cX9_line 13 = .ok (.goto 4, 3) := by decide +kernel
theorem dX9_line_16 : decode cX9_line 16 = .ok (.iconst (-1), 1) := by decide +kernel
theorem dX9_line_17 : decode cX9_line 17 = .ok (.ireturn, 1) := by decide +kernel
theorem dX9_against_0 : decode cX9_against 0 = .ok (.aload_n 0, 1) := by decide +kernel
theorem dX9_against_1 : decode cX9_against 1 = .ok (.iload_n 1, 1) := by decide +kernel
theorem dX9_against_2 : decode cX9_against 2 = .ok (.invokevirtual 251, 3) := by decide +kernel
theorem dX9_against_5 : decode cX9_against 5 = .ok (.ifCond .eq 15, 3) := by decide +kernel
theorem dX9_against_8 : decode cX9_against 8 = .ok (.iload_n 3, 1) := by decide +kernel
theorem dX9_against_9 : decode cX9_against 9 = .ok (.i2l, 1) := by decide +kernel
theorem dX9_against_10 : decode cX9_against 10 = .ok (.lconst 1, 1) := by decide +kernel
theorem dX9_against_11 : decode cX9_against 11 = .ok (.ldc2_w 314, 3) := by decide +kernel
theorem dX9_against_14 : decode cX9_against 14 = .ok (.invokestatic 102, 3) := by decide +kernel
theorem dX9_against_17 : decode cX9_against 17 = .ok (.ifCond .ne 5, 3) := by decide +kernel
theorem dX9_against_20 : decode cX9_against 20 = .ok (.iconst (-1), 1) := by decide +kernel
theorem dX9_against_21 : decode cX9_against 21 = .ok (.ireturn, 1) := by decide +kernel
theorem dX9_against_22 : decode cX9_against 22 = .ok (.aload_n 0, 1) := by decide +kernel
theorem dX9_against_23 : decode cX9_against 23 = .ok (.iload_n 1, 1) := by decide +kernel
theorem dX9_against_24 : decode cX9_against 24 = .ok (.invokevirtual 311, 3) := by decide +kernel
theorem dX9_against_27 : decode cX9_against 27 = .ok (.istore 4, 2) := by decide +kernel
theorem dX9_against_29 : decode cX9_against 29 = .ok (.iload_n 2, 1) := by decide +kernel
theorem dX9_against_30 : decode cX9_against 30 = .ok (.istore 5, 2) := by decide +kernel
theorem dX9_against_32 : decode cX9_against 32 = .ok (.iconst 0, 1) := by decide +kernel
theorem dX9_against_33 : decode cX9_against 33 = .ok (.istore 6, 2) := by decide +kernel
theorem dX9_against_35 : decode cX9_against 35 = .ok (.iconst 0, 1) := by decide +kernel
theorem dX9_against_36 : decode cX9_against 36 = .ok (.istore 7, 2) := by decide +kernel
theorem dX9_against_38 : decode cX9_against 38 = .ok (.iload 7, 2) := by decide +kernel
theorem dX9_against_40 : decode cX9_against 40 = .ok (.iload_n 3, 1) := by decide +kernel
theorem dX9_against_41 : decode cX9_against 41 = .ok (.if_icmp .ge 106, 3) := by decide +kernel
theorem dX9_against_44 : decode cX9_against 44 = .ok (.aload_n 0, 1) := by decide +kernel
theorem dX9_against_45 : decode cX9_against 45 = .ok (.getfield 99, 3) := by decide +kernel
theorem dX9_against_48 : decode cX9_against 48 = .ok (.iconst 1, 1) := by decide +kernel
theorem dX9_against_49 : decode cX9_against 49 = .ok (.isub, 1) := by decide +kernel
theorem dX9_against_50 : decode cX9_against 50 = .ok (.istore 8, 2) := by decide +kernel
theorem dX9_against_52 : decode cX9_against 52 = .ok (.iload 8, 2) := by decide +kernel
theorem dX9_against_54 : decode cX9_against 54 = .ok (.ifCond .le 64, 3) := by decide +kernel
theorem dX9_against_57 : decode cX9_against 57 = .ok (.iload 5, 2) := by decide +kernel
theorem dX9_against_59 : decode cX9_against 59 = .ok (.ldc 226, 2) := by decide +kernel
theorem dX9_against_61 : decode cX9_against 61 = .ok (.imul, 1) := by decide +kernel
theorem dX9_against_62 : decode cX9_against 62 = .ok (.sipush 12345, 3) := by decide +kernel
theorem dX9_against_65 : decode cX9_against 65 = .ok (.iadd, 1) := by decide +kernel
theorem dX9_against_66 : decode cX9_against 66 = .ok (.istore 5, 2) := by decide +kernel
theorem dX9_against_68 : decode cX9_against 68 = .ok (.iload 5, 2) := by decide +kernel
theorem dX9_against_70 : decode cX9_against 70 = .ok (.bipush 8, 2) := by decide +kernel
theorem dX9_against_72 : decode cX9_against 72 = .ok (.iushr, 1) := by decide +kernel
theorem dX9_against_73 : decode cX9_against 73 = .ok (.iload 8, 2) := by decide +kernel
theorem dX9_against_75 : decode cX9_against 75 = .ok (.iconst 1, 1) := by decide +kernel
theorem dX9_against_76 : decode cX9_against 76 = .ok (.iadd, 1) := by decide +kernel
theorem dX9_against_77 : decode cX9_against 77 = .ok (.irem, 1) := by decide +kernel
theorem dX9_against_78 : decode cX9_against 78 = .ok (.istore 9, 2) := by decide +kernel
theorem dX9_against_80 : decode cX9_against 80 = .ok (.aload_n 0, 1) := by decide +kernel
theorem dX9_against_81 : decode cX9_against 81 = .ok (.getfield 70, 3) := by decide +kernel
theorem dX9_against_84 : decode cX9_against 84 = .ok (.iload 8, 2) := by decide +kernel
theorem dX9_against_86 : decode cX9_against 86 = .ok (.iaload, 1) := by decide +kernel
theorem dX9_against_87 : decode cX9_against 87 = .ok (.istore 10, 2) := by decide +kernel
theorem dX9_against_89 : decode cX9_against 89 = .ok (.aload_n 0, 1) := by decide +kernel
theorem dX9_against_90 : decode cX9_against 90 = .ok (.getfield 70, 3) := by decide +kernel
theorem dX9_against_93 : decode cX9_against 93 = .ok (.iload 8, 2) := by decide +kernel
theorem dX9_against_95 : decode cX9_against 95 = .ok (.aload_n 0, 1) := by decide +kernel
theorem dX9_against_96 : decode cX9_against 96 = .ok (.getfield 70, 3) := by decide +kernel
theorem dX9_against_99 : decode cX9_against 99 = .ok (.iload 9, 2) := by decide +kernel
theorem dX9_against_101 : decode cX9_against 101 = .ok (.iaload, 1) := by decide +kernel
theorem dX9_against_102 : decode cX9_against 102 = .ok (.iastore, 1) := by decide +kernel
theorem dX9_against_103 : decode cX9_against 103 = .ok (.aload_n 0, 1) := by decide +kernel
theorem dX9_against_104 : decode cX9_against 104 = .ok (.getfield 70, 3) := by decide +kernel
theorem dX9_against_107 : decode cX9_against 107 = .ok (.iload 9, 2) := by decide +kernel
theorem dX9_against_109 : decode cX9_against 109 = .ok (.iload 10, 2) := by decide +kernel
theorem dX9_against_111 : decode cX9_against 111 = .ok (.iastore, 1) := by decide +kernel
theorem dX9_against_112 : decode cX9_against 112 = .ok (.iinc 8 (-1), 3) := by decide +kernel
theorem dX9_against_115 : decode cX9_against 115 = .ok (.goto (-63), 3) := by decide +kernel
theorem dX9_against_118 : decode cX9_against 118 = .ok (.iload 6, 2) := by decide +kernel
theorem dX9_against_120 : decode cX9_against 120 = .ok (.aload_n 0, 1) := by decide +kernel
theorem dX9_against_121 : decode cX9_against 121 = .ok (.iload_n 1, 1) := by decide +kernel
theorem dX9_against_122 : decode cX9_against 122 = .ok (.bipush 10, 2) := by decide +kernel
theorem dX9_against_124 : decode cX9_against 124 = .ok (.idiv, 1) := by decide +kernel
theorem dX9_against_125 : decode cX9_against 125 = .ok (.invokevirtual 308, 3) := by decide +kernel
theorem dX9_against_128 : decode cX9_against 128 = .ok (.iload 4, 2) := by decide +kernel
theorem dX9_against_130 : decode cX9_against 130 = .ok (.if_icmp .gt 7, 3) := by decide +kernel
theorem dX9_against_133 : decode cX9_against 133 = .ok (.iconst 1, 1) := by decide +kernel
theorem dX9_against_134 : decode cX9_against 134 = .ok (.goto 4, 3) := by decide +kernel
theorem dX9_against_137 : decode cX9_against 137 = .ok (.iconst 0, 1) := by decide +kernel
theorem dX9_against_138 : decode cX9_against 138 = .ok (.iadd, 1) := by decide +kernel
theorem dX9_against_139 : decode cX9_against 139 = .ok (.istore 6, 2) := by decide +kernel
theorem dX9_against_141 : decode cX9_against 141 = .ok (.iinc 7 1, 3) := by decide +kernel
theorem dX9_against_144 : decode cX9_against 144 = .ok (.goto (-106), 3) := by decide +kernel
theorem dX9_against_147 : decode cX9_against 147 = .ok (.iload 6, 2) := by decide +kernel
theorem dX9_against_149 : decode cX9_against 149 = .ok (.ireturn, 1) := by decide +kernel
theorem dX9_isBody_0 : decode cX9_isBody 0 = .ok (.iload_n 1, 1) := by decide +kernel
theorem dX9_isBody_1 : decode cX9_isBody 1 = .ok (.i2l, 1) := by decide +kernel
theorem dX9_isBody_2 : decode cX9_isBody 2 = .ok (.lconst 0, 1) := by decide +kernel
theorem dX9_isBody_3 : decode cX9_isBody 3 = .ok (.aload_n 0, 1) := by decide +kernel
theorem dX9_isBody_4 : decode cX9_isBody 4 = .ok (.getfield 316, 3) := by decide +kernel
theorem dX9_isBody_7 : decode cX9_isBody 7 = .ok (.iconst 1, 1) := by decide +kernel
theorem dX9_isBody_8 : decode cX9_isBody 8 = .ok (.isub, 1) := by decide +kernel
theorem dX9_isBody_9 : decode cX9_isBody 9 = .ok (.i2l, 1) := by decide +kernel
theorem dX9_isBody_10 : decode cX9_isBody 10 = .ok (.invokestatic 102, 3) := by decide +kernel
theorem dX9_isBody_13 : decode cX9_isBody 13 = .ok (.ireturn, 1) := by decide +kernel
theorem dX9_kindOf_0 : decode cX9_kindOf 0 = .ok (.aload_n 0, 1) := by decide +kernel
theorem dX9_kindOf_1 : decode cX9_kindOf 1 = .ok (.getfield 73, 3) := by decide +kernel
theorem dX9_kindOf_4 : decode cX9_kindOf 4 = .ok (.iload_n 1, 1) := by decide +kernel
theorem dX9_kindOf_5 : decode cX9_kindOf 5 = .ok (.iaload, 1) := by decide +kernel
theorem dX9_kindOf_6 : decode cX9_kindOf 6 = .ok (.ireturn, 1) := by decide +kernel
theorem dX9_body_0 : decode cX9_body 0 = .ok (.iload_n 1, 1) := by decide +kernel
theorem dX9_body_1 : decode cX9_body 1 = .ok (.i2l, 1) := by decide +kernel
theorem dX9_body_2 : decode cX9_body 2 = .ok (.lconst 0, 1) := by decide +kernel
theorem dX9_body_3 : decode cX9_body 3 = .ok (.ldc2_w 319, 3) := by decide +kernel
theorem dX9_body_6 : decode cX9_body 6 = .ok (.invokestatic 102, 3) := by decide +kernel
theorem dX9_body_9 : decode cX9_body 9 = .ok (.ifCond .ne 5, 3) := by decide +kernel
theorem dX9_body_12 : decode cX9_body 12 = .ok (.iconst (-1), 1) := by decide +kernel
theorem dX9_body_13 : decode cX9_body 13 = .ok (.ireturn, 1) := by decide +kernel
theorem dX9_body_14 : decode cX9_body 14 = .ok (.aload_n 0, 1) := by decide +kernel
theorem dX9_body_15 : decode cX9_body 15 = .ok (.getfield 316, 3) := by decide +kernel
theorem dX9_body_18 : decode cX9_body 18 = .ok (.bipush 50, 2) := by decide +kernel
theorem dX9_body_20 : decode cX9_body 20 = .ok (.if_icmp .ne 6, 3) := by decide +kernel
theorem dX9_body_23 : decode cX9_body 23 = .ok (.bipush (-3), 2) := by decide +kernel
theorem dX9_body_25 : decode cX9_body 25 = .ok (.ireturn, 1) := by decide +kernel
theorem dX9_body_26 : decode cX9_body 26 = .ok (.aload_n 0, 1) := by decide +kernel
theorem dX9_body_27 : decode cX9_body 27 = .ok (.getfield 73, 3) := by decide +kernel
theorem dX9_body_30 : decode cX9_body 30 = .ok (.aload_n 0, 1) := by decide +kernel
theorem dX9_body_31 : decode cX9_body 31 = .ok (.getfield 316, 3) := by decide +kernel
theorem dX9_body_34 : decode cX9_body 34 = .ok (.iload_n 1, 1) := by decide +kernel
theorem dX9_body_35 : decode cX9_body 35 = .ok (.iastore, 1) := by decide +kernel
theorem dX9_body_36 : decode cX9_body 36 = .ok (.aload_n 0, 1) := by decide +kernel
theorem dX9_body_37 : decode cX9_body 37 = .ok (.dup, 1) := by decide +kernel
theorem dX9_body_38 : decode cX9_body 38 = .ok (.getfield 316, 3) := by decide +kernel
theorem dX9_body_41 : decode cX9_body 41 = .ok (.iconst 1, 1) := by decide +kernel
theorem dX9_body_42 : decode cX9_body 42 = .ok (.iadd, 1) := by decide +kernel
theorem dX9_body_43 : decode cX9_body 43 = .ok (.putfield 316, 3) := by decide +kernel
theorem dX9_body_46 : decode cX9_body 46 = .ok (.aload_n 0, 1) := by decide +kernel
theorem dX9_body_47 : decode cX9_body 47 = .ok (.getfield 316, 3) := by decide +kernel
theorem dX9_body_50 : decode cX9_body 50 = .ok (.iconst 1, 1) := by decide +kernel
theorem dX9_body_51 : decode cX9_body 51 = .ok (.isub, 1) := by decide +kernel
theorem dX9_body_52 : decode cX9_body 52 = .ok (.ireturn, 1) := by decide +kernel
theorem dX9_above_0 : decode cX9_above 0 = .ok (.iload_n 0, 1) := by decide +kernel
theorem dX9_above_1 : decode cX9_above 1 = .ok (.iconst 3, 1) := by decide +kernel
theorem dX9_above_2 : decode cX9_above 2 = .ok (.if_icmp .eq 8, 3) := by decide +kernel
theorem dX9_above_5 : decode cX9_above 5 = .ok (.iload_n 0, 1) := by decide +kernel
theorem dX9_above_6 : decode cX9_above 6 = .ok (.iconst 5, 1) := by decide +kernel
theorem dX9_above_7 : decode cX9_above 7 = .ok (.if_icmp .ne 7, 3) := by decide +kernel
theorem dX9_above_10 : decode cX9_above 10 = .ok (.iconst 2, 1) := by decide +kernel
theorem dX9_above_11 : decode cX9_above 11 = .ok (.goto 14, 3) := by decide +kernel
theorem dX9_above_14 : decode cX9_above 14 = .ok (.iload_n 0, 1) := by decide +kernel
theorem dX9_above_15 : decode cX9_above 15 = .ok (.bipush 6, 2) := by decide +kernel
theorem dX9_above_17 : decode cX9_above 17 = .ok (.if_icmp .ne 7, 3) := by decide +kernel
theorem dX9_above_20 : decode cX9_above 20 = .ok (.iconst 1, 1) := by decide +kernel
theorem dX9_above_21 : decode cX9_above 21 = .ok (.goto 4, 3) := by decide +kernel
theorem dX9_above_24 : decode cX9_above 24 = .ok (.iconst 0, 1) := by decide +kernel
theorem dX9_above_25 : decode cX9_above 25 = .ok (.ireturn, 1) := by decide +kernel
theorem dX9_runs_0 : decode cX9_runs 0 = .ok (.aload_n 0, 1) := by decide +kernel
theorem dX9_runs_1 : decode cX9_runs 1 = .ok (.getfield 321, 3) := by decide +kernel
theorem dX9_runs_4 : decode cX9_runs 4 = .ok (.bipush 24, 2) := by decide +kernel
theorem dX9_runs_6 : decode cX9_runs 6 = .ok (.if_icmp .ge 13, 3) := by decide +kernel
theorem dX9_runs_9 : decode cX9_runs 9 = .ok (.aload_n 0, 1) := by decide +kernel
theorem dX9_runs_10 : decode cX9_runs 10 = .ok (.getfield 76, 3) := by decide +kernel
theorem dX9_runs_13 : decode cX9_runs 13 = .ok (.aload_n 0, 1) := by decide +kernel
theorem dX9_runs_14 : decode cX9_runs 14 = .ok (.getfield 321, 3) := by decide +kernel
theorem dX9_runs_17 : decode cX9_runs 17 = .ok (.iload_n 1, 1) := by decide +kernel
theorem dX9_runs_18 : decode cX9_runs 18 = .ok (.iastore, 1) := by decide +kernel
theorem dX9_runs_19 : decode cX9_runs 19 = .ok (.aload_n 0, 1) := by decide +kernel
theorem dX9_runs_20 : decode cX9_runs 20 = .ok (.dup, 1) := by decide +kernel
theorem dX9_runs_21 : decode cX9_runs 21 = .ok (.getfield 321, 3) := by decide +kernel
theorem dX9_runs_24 : decode cX9_runs 24 = .ok (.iconst 1, 1) := by decide +kernel
theorem dX9_runs_25 : decode cX9_runs 25 = .ok (.iadd, 1) := by decide +kernel
theorem dX9_runs_26 : decode cX9_runs 26 = .ok (.putfield 321, 3) := by decide +kernel
theorem dX9_runs_29 : decode cX9_runs 29 = .ok (.return_, 1) := by decide +kernel
theorem dX9_triesAs_0 : decode cX9_triesAs 0 = .ok (.iload_n 1, 1) := by decide +kernel
theorem dX9_triesAs_1 : decode cX9_triesAs 1 = .ok (.bipush 6, 2) := by decide +kernel
theorem dX9_triesAs_3 : decode cX9_triesAs 3 = .ok (.if_icmp .ne 18, 3) := by decide +kernel
theorem dX9_triesAs_6 : decode cX9_triesAs 6 = .ok (.aload_n 0, 1) := by decide +kernel
theorem dX9_triesAs_7 : decode cX9_triesAs 7 = .ok (.bipush 70, 2) := by decide +kernel
theorem dX9_triesAs_9 : decode cX9_triesAs 9 = .ok (.invokevirtual 324, 3) := by decide +kernel
theorem dX9_triesAs_12 : decode cX9_triesAs 12 = .ok (.aload_n 0, 1) := by decide +kernel
theorem dX9_triesAs_13 : decode cX9_triesAs 13 = .ok (.iconst 1, 1) := by decide +kernel
theorem dX9_triesAs_14 : decode cX9_triesAs 14 = .ok (.iload_n 2, 1) := by decide +kernel
theorem dX9_triesAs_15 : decode cX9_triesAs 15 = .ok (.invokevirtual 327, 3) := by decide +kernel
theorem dX9_triesAs_18 : decode cX9_triesAs 18 = .ok (.iconst 2, 1) := by decide +kernel
theorem dX9_triesAs_19 : decode cX9_triesAs 19 = .ok (.imul, 1) := by decide +kernel
theorem dX9_triesAs_20 : decode cX9_triesAs 20 = .ok (.ireturn, 1) := by decide +kernel
theorem dX9_triesAs_21 : decode cX9_triesAs 21 = .ok (.iload_n 1, 1) := by decide +kernel
theorem dX9_triesAs_22 : decode cX9_triesAs 22 = .ok (.iconst 1, 1) := by decide +kernel
theorem dX9_triesAs_23 : decode cX9_triesAs 23 = .ok (.if_icmp .ne 18, 3) := by decide +kernel
theorem dX9_triesAs_26 : decode cX9_triesAs 26 = .ok (.aload_n 0, 1) := by decide +kernel
theorem dX9_triesAs_27 : decode cX9_triesAs 27 = .ok (.bipush 20, 2) := by decide +kernel
theorem dX9_triesAs_29 : decode cX9_triesAs 29 = .ok (.invokevirtual 324, 3) := by decide +kernel
theorem dX9_triesAs_32 : decode cX9_triesAs 32 = .ok (.aload_n 0, 1) := by decide +kernel
theorem dX9_triesAs_33 : decode cX9_triesAs 33 = .ok (.iconst 0, 1) := by decide +kernel
theorem dX9_triesAs_34 : decode cX9_triesAs 34 = .ok (.iload_n 2, 1) := by decide +kernel
theorem dX9_triesAs_35 : decode cX9_triesAs 35 = .ok (.invokevirtual 327, 3) := by decide +kernel
theorem dX9_triesAs_38 : decode cX9_triesAs 38 = .ok (.iconst 3, 1) := by decide +kernel
theorem dX9_triesAs_39 : decode cX9_triesAs 39 = .ok (.iadd, 1) := by decide +kernel
theorem dX9_triesAs_40 : decode cX9_triesAs 40 = .ok (.ireturn, 1) := by decide +kernel
theorem dX9_triesAs_41 : decode cX9_triesAs 41 = .ok (.aload_n 0, 1) := by decide +kernel
theorem dX9_triesAs_42 : decode cX9_triesAs 42 = .ok (.iconst 1, 1) := by decide +kernel
theorem dX9_triesAs_43 : decode cX9_triesAs 43 = .ok (.invokevirtual 324, 3) := by decide +kernel
theorem dX9_triesAs_46 : decode cX9_triesAs 46 = .ok (.iload_n 2, 1) := by decide +kernel
theorem dX9_triesAs_47 : decode cX9_triesAs 47 = .ok (.aload_n 0, 1) := by decide +kernel
theorem dX9_triesAs_48 : decode cX9_triesAs 48 = .ok (.getfield 330, 3) := by decide +kernel
theorem dX9_triesAs_51 : decode cX9_triesAs 51 = .ok (.iadd, 1) := by decide +kernel
theorem dX9_triesAs_52 : decode cX9_triesAs 52 = .ok (.ireturn, 1) := by decide +kernel
theorem dX9_keepsAs_0 : decode cX9_keepsAs 0 = .ok (.iload_n 1, 1) := by decide +kernel
theorem dX9_keepsAs_1 : decode cX9_keepsAs 1 = .ok (.iconst 3, 1) := by decide +kernel
theorem dX9_keepsAs_2 : decode cX9_keepsAs 2 = .ok (.if_icmp .ne 18, 3) := by decide +kernel
theorem dX9_keepsAs_5 : decode cX9_keepsAs 5 = .ok (.aload_n 0, 1) := by decide +kernel
theorem dX9_keepsAs_6 : decode cX9_keepsAs 6 = .ok (.bipush 41, 2) := by decide +kernel
theorem dX9_keepsAs_8 : decode cX9_keepsAs 8 = .ok (.invokevirtual 324, 3) := by decide +kernel
theorem dX9_keepsAs_11 : decode cX9_keepsAs 11 = .ok (.aload_n 0, 1) := by decide +kernel
theorem dX9_keepsAs_12 : decode cX9_keepsAs 12 = .ok (.iconst 2, 1) := by decide +kernel
theorem dX9_keepsAs_13 : decode cX9_keepsAs 13 = .ok (.iload_n 2, 1) := by decide +kernel
theorem dX9_keepsAs_14 : decode cX9_keepsAs 14 = .ok (.iconst 1, 1) := by decide +kernel
theorem dX9_keepsAs_15 : decode cX9_keepsAs 15 = .ok (.iadd, 1) := by decide +kernel
theorem dX9_keepsAs_16 : decode cX9_keepsAs 16 = .ok (.invokevirtual 333, 3) := by decide +kernel
theorem dX9_keepsAs_19 : decode cX9_keepsAs 19 = .ok (.ireturn, 1) := by decide +kernel
theorem dX9_keepsAs_20 : decode cX9_keepsAs 20 = .ok (.iload_n 1, 1) := by decide +kernel
theorem dX9_keepsAs_21 : decode cX9_keepsAs 21 = .ok (.iconst 2, 1) := by decide +kernel
theorem dX9_keepsAs_22 : decode cX9_keepsAs 22 = .ok (.if_icmp .eq 8, 3) := by decide +kernel
theorem dX9_keepsAs_25 : decode cX9_keepsAs 25 = .ok (.iload_n 1, 1) := by decide +kernel
theorem dX9_keepsAs_26 : decode cX9_keepsAs 26 = .ok (.iconst 5, 1) := by decide +kernel
theorem dX9_keepsAs_27 : decode cX9_keepsAs 27 = .ok (.if_icmp .ne 17, 3) := by decide +kernel
theorem dX9_keepsAs_30 : decode cX9_keepsAs 30 = .ok (.aload_n 0, 1) := by decide +kernel
theorem dX9_keepsAs_31 : decode cX9_keepsAs 31 = .ok (.bipush 30, 2) := by decide +kernel
theorem dX9_keepsAs_33 : decode cX9_keepsAs 33 = .ok (.invokevirtual 324, 3) := by decide +kernel
theorem dX9_keepsAs_36 : decode cX9_keepsAs 36 = .ok (.aload_n 0, 1) := by decide +kernel
theorem dX9_keepsAs_37 : decode cX9_keepsAs 37 = .ok (.iconst 0, 1) := by decide +kernel
theorem dX9_keepsAs_38 : decode cX9_keepsAs 38 = .ok (.iload_n 2, 1) := by decide +kernel
theorem dX9_keepsAs_39 : decode cX9_keepsAs 39 = .ok (.invokevirtual 333, 3) := by decide +kernel
theorem dX9_keepsAs_42 : decode cX9_keepsAs 42 = .ok (.ineg, 1) := by decide +kernel
theorem dX9_keepsAs_43 : decode cX9_keepsAs 43 = .ok (.ireturn, 1) := by decide +kernel
theorem dX9_keepsAs_44 : decode cX9_keepsAs 44 = .ok (.iload_n 1, 1) := by decide +kernel
theorem dX9_keepsAs_45 : decode cX9_keepsAs 45 = .ok (.bipush 7, 2) := by decide +kernel
theorem dX9_keepsAs_47 : decode cX9_keepsAs 47 = .ok (.if_icmp .ne 28, 3) := by decide +kernel
theorem dX9_keepsAs_50 : decode cX9_keepsAs 50 = .ok (.aload_n 0, 1) := by decide +kernel
theorem dX9_keepsAs_51 : decode cX9_keepsAs 51 = .ok (.bipush 80, 2) := by decide +kernel
theorem dX9_keepsAs_53 : decode cX9_keepsAs 53 = .ok (.invokevirtual 324, 3) := by decide +kernel
theorem dX9_keepsAs_56 : decode cX9_keepsAs 56 = .ok (.aload_n 0, 1) := by decide +kernel
theorem dX9_keepsAs_57 : decode cX9_keepsAs 57 = .ok (.iconst 0, 1) := by decide +kernel
theorem dX9_keepsAs_58 : decode cX9_keepsAs 58 = .ok (.iload_n 2, 1) := by decide +kernel
theorem dX9_keepsAs_59 : decode cX9_keepsAs 59 = .ok (.invokevirtual 333, 3) := by decide +kernel
theorem dX9_keepsAs_62 : decode cX9_keepsAs 62 = .ok (.istore_n 3, 1) := by decide +kernel
theorem dX9_keepsAs_63 : decode cX9_keepsAs 63 = .ok (.iload_n 3, 1) := by decide +kernel
theorem dX9_keepsAs_64 : decode cX9_keepsAs 64 = .ok (.aload_n 0, 1) := by decide +kernel
theorem dX9_keepsAs_65 : decode cX9_keepsAs 65 = .ok (.aload_n 0, 1) := by decide +kernel
theorem dX9_keepsAs_66 : decode cX9_keepsAs 66 = .ok (.getfield 336, 3) := by decide +kernel
theorem dX9_keepsAs_69 : decode cX9_keepsAs 69 = .ok (.iconst 2, 1) := by decide +kernel
theorem dX9_keepsAs_70 : decode cX9_keepsAs 70 = .ok (.invokevirtual 339, 3) := by decide +kernel
theorem dX9_keepsAs_73 : decode cX9_keepsAs 73 = .ok (.iadd, 1) := by decide +kernel
theorem dX9_keepsAs_74 : decode cX9_keepsAs 74 = .ok (.ireturn, 1) := by decide +kernel
theorem dX9_keepsAs_75 : decode cX9_keepsAs 75 = .ok (.aload_n 0, 1) := by decide +kernel
theorem dX9_keepsAs_76 : decode cX9_keepsAs 76 = .ok (.bipush 10, 2) := by decide +kernel
theorem dX9_keepsAs_78 : decode cX9_keepsAs 78 = .ok (.invokevirtual 324, 3) := by decide +kernel
theorem dX9_keepsAs_81 : decode cX9_keepsAs 81 = .ok (.aload_n 0, 1) := by decide +kernel
theorem dX9_keepsAs_82 : decode cX9_keepsAs 82 = .ok (.aload_n 0, 1) := by decide +kernel
theorem dX9_keepsAs_83 : decode cX9_keepsAs 83 = .ok (.getfield 336, 3) := by decide +kernel
theorem dX9_keepsAs_86 : decode cX9_keepsAs 86 = .ok (.iload_n 2, 1) := by decide +kernel
theorem dX9_keepsAs_87 : decode cX9_keepsAs 87 = .ok (.invokevirtual 327, 3) := by decide +kernel
theorem dX9_keepsAs_90 : decode cX9_keepsAs 90 = .ok (.iconst 2, 1) := by decide +kernel
theorem dX9_keepsAs_91 : decode cX9_keepsAs 91 = .ok (.imul, 1) := by decide +kernel
theorem dX9_keepsAs_92 : decode cX9_keepsAs 92 = .ok (.ireturn, 1) := by decide +kernel
theorem dX9_countsAs_0 : decode cX9_countsAs 0 = .ok (.iload_n 1, 1) := by decide +kernel
theorem dX9_countsAs_1 : decode cX9_countsAs 1 = .ok (.iconst 3, 1) := by decide +kernel
theorem dX9_countsAs_2 : decode cX9_countsAs 2 = .ok (.if_icmp .ne 18, 3) := by decide +kernel
theorem dX9_countsAs_5 : decode cX9_countsAs 5 = .ok (.aload_n 0, 1) := by decide +kernel
theorem dX9_countsAs_6 : decode cX9_countsAs 6 = .ok (.bipush 40, 2) := by decide +kernel
theorem dX9_countsAs_8 : decode cX9_countsAs 8 = .ok (.invokevirtual 324, 3) := by decide +kernel
theorem dX9_countsAs_11 : decode cX9_countsAs 11 = .ok (.aload_n 0, 1) := by decide +kernel
theorem dX9_countsAs_12 : decode cX9_countsAs 12 = .ok (.iconst 2, 1) := by decide +kernel
theorem dX9_countsAs_13 : decode cX9_countsAs 13 = .ok (.iload_n 2, 1) := by decide +kernel
theorem dX9_countsAs_14 : decode cX9_countsAs 14 = .ok (.invokevirtual 339, 3) := by decide +kernel
theorem dX9_countsAs_17 : decode cX9_countsAs 17 = .ok (.iconst 3, 1) := by decide +kernel
theorem dX9_countsAs_18 : decode cX9_countsAs 18 = .ok (.imul, 1) := by decide +kernel
theorem dX9_countsAs_19 : decode cX9_countsAs 19 = .ok (.ireturn, 1) := by decide +kernel
theorem dX9_countsAs_20 : decode cX9_countsAs 20 = .ok (.iload_n 1, 1) := by decide +kernel
theorem dX9_countsAs_21 : decode cX9_countsAs 21 = .ok (.iconst 4, 1) := by decide +kernel
theorem dX9_countsAs_22 : decode cX9_countsAs 22 = .ok (.if_icmp .ne 28, 3) := by decide +kernel
theorem dX9_countsAs_25 : decode cX9_countsAs 25 = .ok (.aload_n 0, 1) := by decide +kernel
theorem dX9_countsAs_26 : decode cX9_countsAs 26 = .ok (.bipush 50, 2) := by decide +kernel
theorem dX9_countsAs_28 : decode cX9_countsAs 28 = .ok (.invokevirtual 324, 3) := by decide +kernel
theorem dX9_countsAs_31 : decode cX9_countsAs 31 = .ok (.aload_n 0, 1) := by decide +kernel
theorem dX9_countsAs_32 : decode cX9_countsAs 32 = .ok (.iconst 0, 1) := by decide +kernel
theorem dX9_countsAs_33 : decode cX9_countsAs 33 = .ok (.iload_n 2, 1) := by decide +kernel
theorem dX9_countsAs_34 : decode cX9_countsAs 34 = .ok (.invokevirtual 339, 3) := by decide +kernel
theorem dX9_countsAs_37 : decode cX9_countsAs 37 = .ok (.istore_n 3, 1) := by decide +kernel
theorem dX9_countsAs_38 : decode cX9_countsAs 38 = .ok (.iload_n 3, 1) := by decide +kernel
theorem dX9_countsAs_39 : decode cX9_countsAs 39 = .ok (.aload_n 0, 1) := by decide +kernel
theorem dX9_countsAs_40 : decode cX9_countsAs 40 = .ok (.aload_n 0, 1) := by decide +kernel
theorem dX9_countsAs_41 : decode cX9_countsAs 41 = .ok (.getfield 336, 3) := by decide +kernel
theorem dX9_countsAs_44 : decode cX9_countsAs 44 = .ok (.iconst 2, 1) := by decide +kernel
theorem dX9_countsAs_45 : decode cX9_countsAs 45 = .ok (.invokevirtual 327, 3) := by decide +kernel
theorem dX9_countsAs_48 : decode cX9_countsAs 48 = .ok (.isub, 1) := by decide +kernel
theorem dX9_countsAs_49 : decode cX9_countsAs 49 = .ok (.ireturn, 1) := by decide +kernel
theorem dX9_countsAs_50 : decode cX9_countsAs 50 = .ok (.aload_n 0, 1) := by decide +kernel
theorem dX9_countsAs_51 : decode cX9_countsAs 51 = .ok (.bipush 11, 2) := by decide +kernel
theorem dX9_countsAs_53 : decode cX9_countsAs 53 = .ok (.invokevirtual 324, 3) := by decide +kernel
theorem dX9_countsAs_56 : decode cX9_countsAs 56 = .ok (.iload_n 2, 1) := by decide +kernel
theorem dX9_countsAs_57 : decode cX9_countsAs 57 = .ok (.aload_n 0, 1) := by decide +kernel
theorem dX9_countsAs_58 : decode cX9_countsAs 58 = .ok (.getfield 330, 3) := by decide +kernel
theorem dX9_countsAs_61 : decode cX9_countsAs 61 = .ok (.ixor, 1) := by decide +kernel
theorem dX9_countsAs_62 : decode cX9_countsAs 62 = .ok (.ireturn, 1) := by decide +kernel
theorem dX9_tellsAs_0 : decode cX9_tellsAs 0 = .ok (.iload_n 1, 1) := by decide +kernel
theorem dX9_tellsAs_1 : decode cX9_tellsAs 1 = .ok (.iconst 5, 1) := by decide +kernel
theorem dX9_tellsAs_2 : decode cX9_tellsAs 2 = .ok (.if_icmp .ne 18, 3) := by decide +kernel
theorem dX9_tellsAs_5 : decode cX9_tellsAs 5 = .ok (.aload_n 0, 1) := by decide +kernel
theorem dX9_tellsAs_6 : decode cX9_tellsAs 6 = .ok (.bipush 60, 2) := by decide +kernel
theorem dX9_tellsAs_8 : decode cX9_tellsAs 8 = .ok (.invokevirtual 324, 3) := by decide +kernel
theorem dX9_tellsAs_11 : decode cX9_tellsAs 11 = .ok (.aload_n 0, 1) := by decide +kernel
theorem dX9_tellsAs_12 : decode cX9_tellsAs 12 = .ok (.iconst 2, 1) := by decide +kernel
theorem dX9_tellsAs_13 : decode cX9_tellsAs 13 = .ok (.iload_n 2, 1) := by decide +kernel
theorem dX9_tellsAs_14 : decode cX9_tellsAs 14 = .ok (.invokevirtual 342, 3) := by decide +kernel
theorem dX9_tellsAs_17 : decode cX9_tellsAs 17 = .ok (.iconst 5, 1) := by decide +kernel
theorem dX9_tellsAs_18 : decode cX9_tellsAs 18 = .ok (.ixor, 1) := by decide +kernel
theorem dX9_tellsAs_19 : decode cX9_tellsAs 19 = .ok (.ireturn, 1) := by decide +kernel
theorem dX9_tellsAs_20 : decode cX9_tellsAs 20 = .ok (.iload_n 1, 1) := by decide +kernel
theorem dX9_tellsAs_21 : decode cX9_tellsAs 21 = .ok (.bipush 7, 2) := by decide +kernel
theorem dX9_tellsAs_23 : decode cX9_tellsAs 23 = .ok (.if_icmp .ne 18, 3) := by decide +kernel
theorem dX9_tellsAs_26 : decode cX9_tellsAs 26 = .ok (.aload_n 0, 1) := by decide +kernel
theorem dX9_tellsAs_27 : decode cX9_tellsAs 27 = .ok (.bipush 81, 2) := by decide +kernel
theorem dX9_tellsAs_29 : decode cX9_tellsAs 29 = .ok (.invokevirtual 324, 3) := by decide +kernel
theorem dX9_tellsAs_32 : decode cX9_tellsAs 32 = .ok (.aload_n 0, 1) := by decide +kernel
theorem dX9_tellsAs_33 : decode cX9_tellsAs 33 = .ok (.iconst 0, 1) := by decide +kernel
theorem dX9_tellsAs_34 : decode cX9_tellsAs 34 = .ok (.iload_n 2, 1) := by decide +kernel
theorem dX9_tellsAs_35 : decode cX9_tellsAs 35 = .ok (.invokevirtual 342, 3) := by decide +kernel
theorem dX9_tellsAs_38 : decode cX9_tellsAs 38 = .ok (.iconst 1, 1) := by decide +kernel
theorem dX9_tellsAs_39 : decode cX9_tellsAs 39 = .ok (.isub, 1) := by decide +kernel
theorem dX9_tellsAs_40 : decode cX9_tellsAs 40 = .ok (.ireturn, 1) := by decide +kernel
theorem dX9_tellsAs_41 : decode cX9_tellsAs 41 = .ok (.aload_n 0, 1) := by decide +kernel
theorem dX9_tellsAs_42 : decode cX9_tellsAs 42 = .ok (.iconst 2, 1) := by decide +kernel
theorem dX9_tellsAs_43 : decode cX9_tellsAs 43 = .ok (.invokevirtual 324, 3) := by decide +kernel
theorem dX9_tellsAs_46 : decode cX9_tellsAs 46 = .ok (.aload_n 0, 1) := by decide +kernel
theorem dX9_tellsAs_47 : decode cX9_tellsAs 47 = .ok (.aload_n 0, 1) := by decide +kernel
theorem dX9_tellsAs_48 : decode cX9_tellsAs 48 = .ok (.getfield 336, 3) := by decide +kernel
theorem dX9_tellsAs_51 : decode cX9_tellsAs 51 = .ok (.iload_n 2, 1) := by decide +kernel
theorem dX9_tellsAs_52 : decode cX9_tellsAs 52 = .ok (.invokevirtual 333, 3) := by decide +kernel
theorem dX9_tellsAs_55 : decode cX9_tellsAs 55 = .ok (.istore_n 3, 1) := by decide +kernel
theorem dX9_tellsAs_56 : decode cX9_tellsAs 56 = .ok (.iload_n 3, 1) := by decide +kernel
theorem dX9_tellsAs_57 : decode cX9_tellsAs 57 = .ok (.aload_n 0, 1) := by decide +kernel
theorem dX9_tellsAs_58 : decode cX9_tellsAs 58 = .ok (.aload_n 0, 1) := by decide +kernel
theorem dX9_tellsAs_59 : decode cX9_tellsAs 59 = .ok (.getfield 336, 3) := by decide +kernel
theorem dX9_tellsAs_62 : decode cX9_tellsAs 62 = .ok (.iconst 1, 1) := by decide +kernel
theorem dX9_tellsAs_63 : decode cX9_tellsAs 63 = .ok (.invokevirtual 339, 3) := by decide +kernel
theorem dX9_tellsAs_66 : decode cX9_tellsAs 66 = .ok (.isub, 1) := by decide +kernel
theorem dX9_tellsAs_67 : decode cX9_tellsAs 67 = .ok (.ireturn, 1) := by decide +kernel
theorem dX9_act_0 : decode cX9_act 0 = .ok (.aload_n 0, 1) := by decide +kernel
theorem dX9_act_1 : decode cX9_act 1 = .ok (.iconst 0, 1) := by decide +kernel
theorem dX9_act_2 : decode cX9_act 2 = .ok (.putfield 321, 3) := by decide +kernel
theorem dX9_act_5 : decode cX9_act 5 = .ok (.aload_n 0, 1) := by decide +kernel
theorem dX9_act_6 : decode cX9_act 6 = .ok (.iload_n 1, 1) := by decide +kernel
theorem dX9_act_7 : decode cX9_act 7 = .ok (.invokevirtual 345, 3) := by decide +kernel
theorem dX9_act_10 : decode cX9_act 10 = .ok (.ifCond .ne 5, 3) := by decide +kernel
theorem dX9_act_13 : decode cX9_act 13 = .ok (.iconst 0, 1) := by decide +kernel
theorem dX9_act_14 : decode cX9_act 14 = .ok (.ireturn, 1) := by decide +kernel
theorem dX9_act_15 : decode cX9_act 15 = .ok (.aload_n 0, 1) := by decide +kernel
theorem dX9_act_16 : decode cX9_act 16 = .ok (.aload_n 0, 1) := by decide +kernel
theorem dX9_act_17 : decode cX9_act 17 = .ok (.getfield 73, 3) := by decide +kernel
theorem dX9_act_20 : decode cX9_act 20 = .ok (.iload_n 1, 1) := by decide +kernel
theorem dX9_act_21 : decode cX9_act 21 = .ok (.iaload, 1) := by decide +kernel
theorem dX9_act_22 : decode cX9_act 22 = .ok (.putfield 336, 3) := by decide +kernel
theorem dX9_act_25 : decode cX9_act 25 = .ok (.aload_n 0, 1) := by decide +kernel
theorem dX9_act_26 : decode cX9_act 26 = .ok (.iload_n 1, 1) := by decide +kernel
theorem dX9_act_27 : decode cX9_act 27 = .ok (.putfield 330, 3) := by decide +kernel
theorem dX9_act_30 : decode cX9_act 30 = .ok (.iload_n 2, 1) := by decide +kernel
theorem dX9_act_31 : decode cX9_act 31 = .ok (.tableswitch 69 0 3 #[29, 39, 49, 59], 29) := by decide +kernel
theorem dX9_act_60 : decode cX9_act 60 = .ok (.aload_n 0, 1) := by decide +kernel
theorem dX9_act_61 : decode cX9_act 61 = .ok (.aload_n 0, 1) := by decide +kernel
theorem dX9_act_62 : decode cX9_act 62 = .ok (.getfield 336, 3) := by decide +kernel
theorem dX9_act_65 : decode cX9_act 65 = .ok (.iload_n 3, 1) := by decide +kernel
theorem dX9_act_66 : decode cX9_act 66 = .ok (.invokevirtual 327, 3) := by decide +kernel
theorem dX9_act_69 : decode cX9_act 69 = .ok (.ireturn, 1) := by decide +kernel
theorem dX9_act_70 : decode cX9_act 70 = .ok (.aload_n 0, 1) := by decide +kernel
theorem dX9_act_71 : decode cX9_act 71 = .ok (.aload_n 0, 1) := by decide +kernel
theorem dX9_act_72 : decode cX9_act 72 = .ok (.getfield 336, 3) := by decide +kernel
theorem dX9_act_75 : decode cX9_act 75 = .ok (.iload_n 3, 1) := by decide +kernel
theorem dX9_act_76 : decode cX9_act 76 = .ok (.invokevirtual 333, 3) := by decide +kernel
theorem dX9_act_79 : decode cX9_act 79 = .ok (.ireturn, 1) := by decide +kernel
theorem dX9_act_80 : decode cX9_act 80 = .ok (.aload_n 0, 1) := by decide +kernel
theorem dX9_act_81 : decode cX9_act 81 = .ok (.aload_n 0, 1) := by decide +kernel
theorem dX9_act_82 : decode cX9_act 82 = .ok (.getfield 336, 3) := by decide +kernel
theorem dX9_act_85 : decode cX9_act 85 = .ok (.iload_n 3, 1) := by decide +kernel
theorem dX9_act_86 : decode cX9_act 86 = .ok (.invokevirtual 339, 3) := by decide +kernel
theorem dX9_act_89 : decode cX9_act 89 = .ok (.ireturn, 1) := by decide +kernel
theorem dX9_act_90 : decode cX9_act 90 = .ok (.aload_n 0, 1) := by decide +kernel
theorem dX9_act_91 : decode cX9_act 91 = .ok (.aload_n 0, 1) := by decide +kernel
theorem dX9_act_92 : decode cX9_act 92 = .ok (.getfield 336, 3) := by decide +kernel
theorem dX9_act_95 : decode cX9_act 95 = .ok (.iload_n 3, 1) := by decide +kernel
theorem dX9_act_96 : decode cX9_act 96 = .ok (.invokevirtual 342, 3) := by decide +kernel
theorem dX9_act_99 : decode cX9_act 99 = .ok (.ireturn, 1) := by decide +kernel
theorem dX9_act_100 : decode cX9_act 100 = .ok (.iconst 0, 1) := by decide +kernel
theorem dX9_act_101 : decode cX9_act 101 = .ok (.ireturn, 1) := by decide +kernel
theorem dX9_trace_0 : decode cX9_trace 0 = .ok (.iload_n 1, 1) := by decide +kernel
theorem dX9_trace_1 : decode cX9_trace 1 = .ok (.ifCond .lt 26, 3) := by decide +kernel
theorem dX9_trace_4 : decode cX9_trace 4 = .ok (.iload_n 1, 1) := by decide +kernel
theorem dX9_trace_5 : decode cX9_trace 5 = .ok (.aload_n 0, 1) := by decide +kernel
theorem dX9_trace_6 : decode cX9_trace 6 = .ok (.getfield 321, 3) := by decide +kernel
theorem dX9_trace_9 : decode cX9_trace 9 = .ok (.if_icmp .ge 18, 3) := by decide +kernel
theorem dX9_trace_12 : decode cX9_trace 12 = .ok (.iload_n 1, 1) := by decide +kernel
theorem dX9_trace_13 : decode cX9_trace 13 = .ok (.bipush 24, 2) := by decide +kernel
theorem dX9_trace_15 : decode cX9_trace 15 = .ok (.if_icmp .ge 12, 3) := by decide +kernel
theorem dX9_trace_18 : decode cX9_trace 18 = .ok (.aload_n 0, 1) := by decide +kernel
theorem dX9_trace_19 : decode cX9_trace 19 = .ok (.getfield 76, 3) := by decide +kernel
theorem dX9_trace_22 : decode cX9_trace 22 = .ok (.iload_n 1, 1) := by decide +kernel
theorem dX9_trace_23 : decode cX9_trace 23 = .ok (.iaload, 1) := by decide +kernel
theorem dX9_trace_24 : decode cX9_trace 24 = .ok (.goto 4, 3) := by decide +kernel
theorem dX9_trace_27 : decode cX9_trace 27 = .ok (.iconst (-1), 1) := by decide +kernel
theorem dX9_trace_28 : decode cX9_trace 28 = .ok (.ireturn, 1) := by decide +kernel
theorem dX9_isShelf_0 : decode cX9_isShelf 0 = .ok (.iload_n 0, 1) := by decide +kernel
theorem dX9_isShelf_1 : decode cX9_isShelf 1 = .ok (.i2l, 1) := by decide +kernel
theorem dX9_isShelf_2 : decode cX9_isShelf 2 = .ok (.lconst 0, 1) := by decide +kernel
theorem dX9_isShelf_3 : decode cX9_isShelf 3 = .ok (.ldc2_w 348, 3) := by decide +kernel
theorem dX9_isShelf_6 : decode cX9_isShelf 6 = .ok (.invokestatic 102, 3) := by decide +kernel
theorem dX9_isShelf_9 : decode cX9_isShelf 9 = .ok (.ireturn, 1) := by decide +kernel
theorem dX9_keep_0 : decode cX9_keep 0 = .ok (.iload_n 1, 1) := by decide +kernel
theorem dX9_keep_1 : decode cX9_keep 1 = .ok (.invokestatic 239, 3) := by decide +kernel
theorem dX9_keep_4 : decode cX9_keep 4 = .ok (.ifCond .eq 16, 3) := by decide +kernel
theorem dX9_keep_7 : decode cX9_keep 7 = .ok (.iload_n 2, 1) := by decide +kernel
theorem dX9_keep_8 : decode cX9_keep 8 = .ok (.iconst (-1), 1) := by decide +kernel
theorem dX9_keep_9 : decode cX9_keep 9 = .ok (.if_icmp .eq 13, 3) := by decide +kernel
theorem dX9_keep_12 : decode cX9_keep 12 = .ok (.aload_n 0, 1) := by decide +kernel
theorem dX9_keep_13 : decode cX9_keep 13 = .ok (.iload_n 2, 1) := by decide +kernel
theorem dX9_keep_14 : decode cX9_keep 14 = .ok (.invokevirtual 345, 3) := by decide +kernel
theorem dX9_keep_17 : decode cX9_keep 17 = .ok (.ifCond .ne 5, 3) := by decide +kernel
theorem dX9_keep_20 : decode cX9_keep 20 = .ok (.iconst (-1), 1) := by decide +kernel
theorem dX9_keep_21 : decode cX9_keep 21 = .ok (.ireturn, 1) := by decide +kernel
theorem dX9_keep_22 : decode cX9_keep 22 = .ok (.aload_n 0, 1) := by decide +kernel
theorem dX9_keep_23 : decode cX9_keep 23 = .ok (.getfield 79, 3) := by decide +kernel
theorem dX9_keep_26 : decode cX9_keep 26 = .ok (.iload_n 1, 1) := by decide +kernel
theorem dX9_keep_27 : decode cX9_keep 27 = .ok (.iload_n 2, 1) := by decide +kernel
theorem dX9_keep_28 : decode cX9_keep 28 = .ok (.iastore, 1) := by decide +kernel
theorem dX9_keep_29 : decode cX9_keep 29 = .ok (.aload_n 0, 1) := by decide +kernel
theorem dX9_keep_30 : decode cX9_keep 30 = .ok (.getfield 82, 3) := by decide +kernel
theorem dX9_keep_33 : decode cX9_keep 33 = .ok (.iload_n 1, 1) := by decide +kernel
theorem dX9_keep_34 : decode cX9_keep 34 = .ok (.iconst 0, 1) := by decide +kernel
theorem dX9_keep_35 : decode cX9_keep 35 = .ok (.iastore, 1) := by decide +kernel
theorem dX9_keep_36 : decode cX9_keep 36 = .ok (.iconst 1, 1) := by decide +kernel
theorem dX9_keep_37 : decode cX9_keep 37 = .ok (.ireturn, 1) := by decide +kernel
theorem dX9_row_0 : decode cX9_row 0 = .ok (.iload_n 1, 1) := by decide +kernel
theorem dX9_row_1 : decode cX9_row 1 = .ok (.invokestatic 239, 3) := by decide +kernel
theorem dX9_row_4 : decode cX9_row 4 = .ok (.ifCond .eq 21, 3) := by decide +kernel
theorem dX9_row_7 : decode cX9_row 7 = .ok (.iload_n 2, 1) := by decide +kernel
theorem dX9_row_8 : decode cX9_row 8 = .ok (.i2l, 1) := by decide +kernel
theorem dX9_row_9 : decode cX9_row 9 = .ok (.lconst 0, 1) := by decide +kernel
theorem dX9_row_10 : decode cX9_row 10 = .ok (.ldc2_w 119, 3) := by decide +kernel
theorem dX9_row_13 : decode cX9_row 13 = .ok (.invokestatic 102, 3) := by decide +kernel
theorem dX9_row_16 : decode cX9_row 16 = .ok (.ifCond .eq 9, 3) := by decide +kernel
theorem dX9_row_19 : decode cX9_row 19 = .ok (.iload_n 3, 1) := by decide +kernel
theorem dX9_row_20 : decode cX9_row 20 = .ok (.bipush 60, 2) := by decide +kernel
theorem dX9_row_22 : decode cX9_row 22 = .ok (.if_icmp .le 5, 3) := by decide +kernel
theorem dX9_row_25 : decode cX9_row 25 = .ok (.iconst (-1), 1) := by decide +kernel
theorem dX9_row_26 : decode cX9_row 26 = .ok (.ireturn, 1) := by decide +kernel
theorem dX9_row_27 : decode cX9_row 27 = .ok (.iload_n 3, 1) := by decide +kernel
theorem dX9_row_28 : decode cX9_row 28 = .ok (.ifCond .ge 6, 3) := by decide +kernel
theorem dX9_row_31 : decode cX9_row 31 = .ok (.bipush (-14), 2) := by decide +kernel
theorem dX9_row_33 : decode cX9_row 33 = .ok (.ireturn, 1) := by decide +kernel
theorem dX9_row_34 : decode cX9_row 34 = .ok (.aload_n 0, 1) := by decide +kernel
theorem dX9_row_35 : decode cX9_row 35 = .ok (.getfield 79, 3) := by decide +kernel
theorem dX9_row_38 : decode cX9_row 38 = .ok (.iload_n 1, 1) := by decide +kernel
theorem dX9_row_39 : decode cX9_row 39 = .ok (.bipush 50, 2) := by decide +kernel
theorem dX9_row_41 : decode cX9_row 41 = .ok (.iload_n 2, 1) := by decide +kernel
theorem dX9_row_42 : decode cX9_row 42 = .ok (.iadd, 1) := by decide +kernel
theorem dX9_row_43 : decode cX9_row 43 = .ok (.iastore, 1) := by decide +kernel
theorem dX9_row_44 : decode cX9_row 44 = .ok (.aload_n 0, 1) := by decide +kernel
theorem dX9_row_45 : decode cX9_row 45 = .ok (.getfield 82, 3) := by decide +kernel
theorem dX9_row_48 : decode cX9_row 48 = .ok (.iload_n 1, 1) := by decide +kernel
theorem dX9_row_49 : decode cX9_row 49 = .ok (.iload_n 3, 1) := by decide +kernel
theorem dX9_row_50 : decode cX9_row 50 = .ok (.iastore, 1) := by decide +kernel
theorem dX9_row_51 : decode cX9_row 51 = .ok (.bipush 60, 2) := by decide +kernel
theorem dX9_row_53 : decode cX9_row 53 = .ok (.iload_n 1, 1) := by decide +kernel
theorem dX9_row_54 : decode cX9_row 54 = .ok (.imul, 1) := by decide +kernel
theorem dX9_row_55 : decode cX9_row 55 = .ok (.istore 4, 2) := by decide +kernel
theorem dX9_row_57 : decode cX9_row 57 = .ok (.iload 4, 2) := by decide +kernel
theorem dX9_row_59 : decode cX9_row 59 = .ok (.bipush 60, 2) := by decide +kernel
theorem dX9_row_61 : decode cX9_row 61 = .ok (.iload_n 1, 1) := by decide +kernel
theorem dX9_row_62 : decode cX9_row 62 = .ok (.imul, 1) := by decide +kernel
theorem dX9_row_63 : decode cX9_row 63 = .ok (.bipush 60, 2) := by decide +kernel
theorem dX9_row_65 : decode cX9_row 65 = .ok (.iadd, 1) := by decide +kernel
theorem dX9_row_66 : decode cX9_row 66 = .ok (.if_icmp .ge 17, 3) := by decide +kernel
theorem dX9_row_69 : decode cX9_row 69 = .ok (.aload_n 0, 1) := by decide +kernel
theorem dX9_row_70 : decode cX9_row 70 = .ok (.getfield 85, 3) := by decide +kernel
theorem dX9_row_73 : decode cX9_row 73 = .ok (.iload 4, 2) := by decide +kernel
theorem dX9_row_75 : decode cX9_row 75 = .ok (.lconst 0, 1) := by decide +kernel
theorem dX9_row_76 : decode cX9_row 76 = .ok (.lastore, 1) := by decide +kernel
theorem dX9_row_77 : decode cX9_row 77 = .ok (.iinc 4 1, 3) := by decide +kernel
theorem dX9_row_80 : decode cX9_row 80 = .ok (.goto (-23), 3) := by decide +kernel
theorem dX9_row_83 : decode cX9_row 83 = .ok (.iconst 1, 1) := by decide +kernel
theorem dX9_row_84 : decode cX9_row 84 = .ok (.ireturn, 1) := by decide +kernel
theorem dX9_refusal_0 : decode cX9_refusal 0 = .ok (.iload_n 1, 1) := by decide +kernel
theorem dX9_refusal_1 : decode cX9_refusal 1 = .ok (.invokestatic 239, 3) := by decide +kernel
theorem dX9_refusal_4 : decode cX9_refusal 4 = .ok (.ifCond .ne 5, 3) := by decide +kernel
theorem dX9_refusal_7 : decode cX9_refusal 7 = .ok (.iconst (-1), 1) := by decide +kernel
theorem dX9_refusal_8 : decode cX9_refusal 8 = .ok (.ireturn, 1) := by decide +kernel
theorem dX9_refusal_9 : decode cX9_refusal 9 = .ok (.aload_n 0, 1) := by decide +kernel
theorem dX9_refusal_10 : decode cX9_refusal 10 = .ok (.getfield 79, 3) := by decide +kernel
theorem dX9_refusal_13 : decode cX9_refusal 13 = .ok (.iload_n 1, 1) := by decide +kernel
theorem dX9_refusal_14 : decode cX9_refusal 14 = .ok (.iaload, 1) := by decide +kernel
theorem dX9_refusal_15 : decode cX9_refusal 15 = .ok (.ifCond .ge 6, 3) := by decide +kernel
theorem dX9_refusal_18 : decode cX9_refusal 18 = .ok (.bipush (-11), 2) := by decide +kernel
theorem dX9_refusal_20 : decode cX9_refusal 20 = .ok (.ireturn, 1) := by decide +kernel
theorem dX9_refusal_21 : decode cX9_refusal 21 = .ok (.aload_n 0, 1) := by decide +kernel
theorem dX9_refusal_22 : decode cX9_refusal 22 = .ok (.getfield 79, 3) := by decide +kernel
theorem dX9_refusal_25 : decode cX9_refusal 25 = .ok (.iload_n 1, 1) := by decide +kernel
theorem dX9_refusal_26 : decode cX9_refusal 26 = .ok (.iaload, 1) := by decide +kernel
theorem dX9_refusal_27 : decode cX9_refusal 27 = .ok (.bipush 50, 2) := by decide +kernel
theorem dX9_refusal_29 : decode cX9_refusal 29 = .ok (.if_icmp .ge 6, 3) := by decide +kernel
theorem dX9_refusal_32 : decode cX9_refusal 32 = .ok (.bipush (-12), 2) := by decide +kernel
theorem dX9_refusal_34 : decode cX9_refusal 34 = .ok (.ireturn, 1) := by decide +kernel
theorem dX9_refusal_35 : decode cX9_refusal 35 = .ok (.iload_n 2, 1) := by decide +kernel
theorem dX9_refusal_36 : decode cX9_refusal 36 = .ok (.ifCond .lt 17, 3) := by decide +kernel
theorem dX9_refusal_39 : decode cX9_refusal 39 = .ok (.iload_n 2, 1) := by decide +kernel
theorem dX9_refusal_40 : decode cX9_refusal 40 = .ok (.aload_n 0, 1) := by decide +kernel
theorem dX9_refusal_41 : decode cX9_refusal 41 = .ok (.getfield 82, 3) := by decide +kernel
theorem dX9_refusal_44 : decode cX9_refusal 44 = .ok (.iload_n 1, 1) := by decide +kernel
theorem dX9_refusal_45 : decode cX9_refusal 45 = .ok (.iaload, 1) := by decide +kernel
theorem dX9_refusal_46 : decode cX9_refusal 46 = .ok (.if_icmp .ge 7, 3) := by decide +kernel
theorem dX9_refusal_49 : decode cX9_refusal 49 = .ok (.iconst 0, 1) := by decide +kernel
theorem dX9_refusal_50 : decode cX9_refusal 50 = .ok (.goto 5, 3) := by decide +kernel
theorem dX9_refusal_53 : decode cX9_refusal 53 = .ok (.bipush (-13), 2) := by decide +kernel
theorem dX9_refusal_55 : decode cX9_refusal 55 = .ok (.ireturn, 1) := by decide +kernel
theorem dX9_asSort_0 : decode cX9_asSort 0 = .ok (.iload_n 0, 1) := by decide +kernel
theorem dX9_asSort_1 : decode cX9_asSort 1 = .ok (.ifCond .ne 10, 3) := by decide +kernel
theorem dX9_asSort_4 : decode cX9_asSort 4 = .ok (.lload_n 1, 1) := by decide +kernel
theorem dX9_asSort_5 : decode cX9_asSort 5 = .ok (.l2i, 1) := by decide +kernel
theorem dX9_asSort_6 : decode cX9_asSort 6 = .ok (.i2b, 1) := by decide +kernel
theorem dX9_asSort_7 : decode cX9_asSort 7 = .ok (.i2l, 1) := by decide +kernel
theorem dX9_asSort_8 : decode cX9_asSort 8 = .ok (.goto 46, 3) := by decide +kernel
theorem dX9_asSort_11 : decode cX9_asSort 11 = .ok (.iload_n 0, 1) := by decide +kernel
theorem dX9_asSort_12 : decode cX9_asSort 12 = .ok (.iconst 1, 1) := by decide +kernel
theorem dX9_asSort_13 : decode cX9_asSort 13 = .ok (.if_icmp .ne 10, 3) := by decide +kernel
theorem dX9_asSort_16 : decode cX9_asSort 16 = .ok (.lload_n 1, 1) := by decide +kernel
theorem dX9_asSort_17 : decode cX9_asSort 17 = .ok (.l2i, 1) := by decide +kernel
theorem dX9_asSort_18 : decode cX9_asSort 18 = .ok (.i2s, 1) := by decide +kernel
theorem dX9_asSort_19 : decode cX9_asSort 19 = .ok (.i2l, 1) := by decide +kernel
theorem dX9_asSort_20 : decode cX9_asSort 20 = .ok (.goto 34, 3) := by decide +kernel
theorem dX9_asSort_23 : decode cX9_asSort 23 = .ok (.iload_n 0, 1) := by decide +kernel
theorem dX9_asSort_24 : decode cX9_asSort 24 = .ok (.iconst 2, 1) := by decide +kernel
theorem dX9_asSort_25 : decode cX9_asSort 25 = .ok (.if_icmp .ne 9, 3) := by decide +kernel
theorem dX9_asSort_28 : decode cX9_asSort 28 = .ok (.lload_n 1, 1) := by decide +kernel
theorem dX9_asSort_29 : decode cX9_asSort 29 = .ok (.l2i, 1) := by decide +kernel
theorem dX9_asSort_30 : decode cX9_asSort 30 = .ok (.i2l, 1) := by decide +kernel
theorem dX9_asSort_31 : decode cX9_asSort 31 = .ok (.goto 23, 3) := by decide +kernel
theorem dX9_asSort_34 : decode cX9_asSort 34 = .ok (.iload_n 0, 1) := by decide +kernel
theorem dX9_asSort_35 : decode cX9_asSort 35 = .ok (.iconst 4, 1) := by decide +kernel
theorem dX9_asSort_36 : decode cX9_asSort 36 = .ok (.if_icmp .ne 17, 3) := by decide +kernel
theorem dX9_asSort_39 : decode cX9_asSort 39 = .ok (.lload_n 1, 1) := by decide +kernel
theorem dX9_asSort_40 : decode cX9_asSort 40 = .ok (.lconst 0, 1) := by decide +kernel
theorem dX9_asSort_41 : decode cX9_asSort 41 = .ok (.lcmp, 1) := by decide +kernel
theorem dX9_asSort_42 : decode cX9_asSort 42 = .ok (.ifCond .eq 7, 3) := by decide +kernel
theorem dX9_asSort_45 : decode cX9_asSort 45 = .ok (.lconst 1, 1) := by decide +kernel
theorem dX9_asSort_46 : decode cX9_asSort 46 = .ok (.goto 8, 3) := by decide +kernel
theorem dX9_asSort_49 : decode cX9_asSort 49 = .ok (.lconst 0, 1) := by decide +kernel
theorem dX9_asSort_50 : decode cX9_asSort 50 = .ok (.goto 4, 3) := by decide +kernel
theorem dX9_asSort_53 : decode cX9_asSort 53 = .ok (.lload_n 1, 1) := by decide +kernel
theorem dX9_asSort_54 : decode cX9_asSort 54 = .ok (.lreturn, 1) := by decide +kernel
theorem dX9_put_0 : decode cX9_put 0 = .ok (.aload_n 0, 1) := by decide +kernel
theorem dX9_put_1 : decode cX9_put 1 = .ok (.iload_n 1, 1) := by decide +kernel
theorem dX9_put_2 : decode cX9_put 2 = .ok (.iload_n 2, 1) := by decide +kernel
theorem dX9_put_3 : decode cX9_put 3 = .ok (.invokevirtual 350, 3) := by decide +kernel
theorem dX9_put_6 : decode cX9_put 6 = .ok (.istore 5, 2) := by decide +kernel
theorem dX9_put_8 : decode cX9_put 8 = .ok (.iload 5, 2) := by decide +kernel
theorem dX9_put_10 : decode cX9_put 10 = .ok (.ifCond .ne 27, 3) := by decide +kernel
theorem dX9_put_13 : decode cX9_put 13 = .ok (.aload_n 0, 1) := by decide +kernel
theorem dX9_put_14 : decode cX9_put 14 = .ok (.getfield 85, 3) := by decide +kernel
theorem dX9_put_17 : decode cX9_put 17 = .ok (.bipush 60, 2) := by decide +kernel
theorem dX9_put_19 : decode cX9_put 19 = .ok (.iload_n 1, 1) := by decide +kernel
theorem dX9_put_20 : decode cX9_put 20 = .ok (.imul, 1) := by decide +kernel
theorem dX9_put_21 : decode cX9_put 21 = .ok (.iload_n 2, 1) := by decide +kernel
theorem dX9_put_22 : decode cX9_put 22 = .ok (.iadd, 1) := by decide +kernel
theorem dX9_put_23 : decode cX9_put 23 = .ok (.aload_n 0, 1) := by decide +kernel
theorem dX9_put_24 : decode cX9_put 24 = .ok (.getfield 79, 3) := by decide +kernel
theorem dX9_put_27 : decode cX9_put 27 = .ok (.iload_n 1, 1) := by decide +kernel
theorem dX9_put_28 : decode cX9_put 28 = .ok (.iaload, 1) := by decide +kernel
theorem dX9_put_29 : decode cX9_put 29 = .ok (.bipush 50, 2) := by decide +kernel
theorem dX9_put_31 : decode cX9_put 31 = .ok (.isub, 1) := by decide +kernel
theorem dX9_put_32 : decode cX9_put 32 = .ok (.lload_n 3, 1) := by decide +kernel
theorem dX9_put_33 : decode cX9_put 33 = .ok (.invokestatic 353, 3) := by decide +kernel
theorem dX9_put_36 : decode cX9_put 36 = .ok (.lastore, 1) := by decide +kernel
theorem dX9_put_37 : decode cX9_put 37 = .ok (.iload 5, 2) := by decide +kernel
theorem dX9_put_39 : decode cX9_put 39 = .ok (.ifCond .ne 7, 3) := by decide +kernel
theorem dX9_put_42 : decode cX9_put 42 = .ok (.iconst 1, 1) := by decide +kernel
theorem dX9_put_43 : decode cX9_put 43 = .ok (.goto 5, 3) := by decide +kernel
theorem dX9_put_46 : decode cX9_put 46 = .ok (.iload 5, 2) := by decide +kernel
theorem dX9_put_48 : decode cX9_put 48 = .ok (.ireturn, 1) := by decide +kernel
theorem dX9_element_0 : decode cX9_element 0 = .ok (.aload_n 0, 1) := by decide +kernel
theorem dX9_element_1 : decode cX9_element 1 = .ok (.iload_n 1, 1) := by decide +kernel
theorem dX9_element_2 : decode cX9_element 2 = .ok (.iload_n 2, 1) := by decide +kernel
theorem dX9_element_3 : decode cX9_element 3 = .ok (.invokevirtual 350, 3) := by decide +kernel
theorem dX9_element_6 : decode cX9_element 6 = .ok (.ifCond .eq 9, 3) := by decide +kernel
theorem dX9_element_9 : decode cX9_element 9 = .ok (.ldc2_w 359, 3) := by decide +kernel
theorem dX9_element_12 : decode cX9_element 12 = .ok (.goto 14, 3) := by decide +kernel
theorem dX9_element_15 : decode cX9_element 15 = .ok (.aload_n 0, 1) := by decide +kernel
theorem dX9_element_16 : decode cX9_element 16 = .ok (.getfield 85, 3) := by decide +kernel
theorem dX9_element_19 : decode cX9_element 19 = .ok (.bipush 60, 2) := by decide +kernel
theorem dX9_element_21 : decode cX9_element 21 = .ok (.iload_n 1, 1) := by decide +kernel
theorem dX9_element_22 : decode cX9_element 22 = .ok (.imul, 1) := by decide +kernel
theorem dX9_element_23 : decode cX9_element 23 = .ok (.iload_n 2, 1) := by decide +kernel
theorem dX9_element_24 : decode cX9_element 24 = .ok (.iadd, 1) := by decide +kernel
theorem dX9_element_25 : decode cX9_element 25 = .ok (.laload, 1) := by decide +kernel
theorem dX9_element_26 : decode cX9_element 26 = .ok (.lreturn, 1) := by decide +kernel
theorem dX9_shift_0 : decode cX9_shift 0 = .ok (.iload_n 1, 1) := by decide +kernel
theorem dX9_shift_1 : decode cX9_shift 1 = .ok (.invokestatic 239, 3) := by decide +kernel
theorem dX9_shift_4 : decode cX9_shift 4 = .ok (.ifCond .eq 10, 3) := by decide +kernel
theorem dX9_shift_7 : decode cX9_shift 7 = .ok (.iload_n 3, 1) := by decide +kernel
theorem dX9_shift_8 : decode cX9_shift 8 = .ok (.invokestatic 239, 3) := by decide +kernel
theorem dX9_shift_11 : decode cX9_shift 11 = .ok (.ifCond .ne 5, 3) := by decide +kernel
theorem dX9_shift_14 : decode cX9_shift 14 = .ok (.iconst (-1), 1) := by decide +kernel
theorem dX9_shift_15 : decode cX9_shift 15 = .ok (.ireturn, 1) := by decide +kernel
theorem dX9_shift_16 : decode cX9_shift 16 = .ok (.aload_n 0, 1) := by decide +kernel
theorem dX9_shift_17 : decode cX9_shift 17 = .ok (.getfield 79, 3) := by decide +kernel
theorem dX9_shift_20 : decode cX9_shift 20 = .ok (.iload_n 1, 1) := by decide +kernel
theorem dX9_shift_21 : decode cX9_shift 21 = .ok (.iaload, 1) := by decide +kernel
theorem dX9_shift_22 : decode cX9_shift 22 = .ok (.ifCond .lt 12, 3) := by decide +kernel
theorem dX9_shift_25 : decode cX9_shift 25 = .ok (.aload_n 0, 1) := by decide +kernel
theorem dX9_shift_26 : decode cX9_shift 26 = .ok (.getfield 79, 3) := by decide +kernel
theorem dX9_shift_29 : decode cX9_shift 29 = .ok (.iload_n 3, 1) := by decide +kernel
theorem dX9_shift_30 : decode cX9_shift 30 = .ok (.iaload, 1) := by decide +kernel
theorem dX9_shift_31 : decode cX9_shift 31 = .ok (.ifCond .ge 6, 3) := by decide +kernel
theorem dX9_shift_34 : decode cX9_shift 34 = .ok (.bipush (-11), 2) := by decide +kernel
theorem dX9_shift_36 : decode cX9_shift 36 = .ok (.ireturn, 1) := by decide +kernel
theorem dX9_shift_37 : decode cX9_shift 37 = .ok (.aload_n 0, 1) := by decide +kernel
theorem dX9_shift_38 : decode cX9_shift 38 = .ok (.getfield 79, 3) := by decide +kernel
theorem dX9_shift_41 : decode cX9_shift 41 = .ok (.iload_n 1, 1) := by decide +kernel
theorem dX9_shift_42 : decode cX9_shift 42 = .ok (.iaload, 1) := by decide +kernel
theorem dX9_shift_43 : decode cX9_shift 43 = .ok (.bipush 50, 2) := by decide +kernel
theorem dX9_shift_45 : decode cX9_shift 45 = .ok (.if_icmp .lt 18, 3) := by decide +kernel
theorem dX9_shift_48 : decode cX9_shift 48 = .ok (.aload_n 0, 1) := by decide +kernel
theorem dX9_shift_49 : decode cX9_shift 49 = .ok (.getfield 79, 3) := by decide +kernel
theorem dX9_shift_52 : decode cX9_shift 52 = .ok (.iload_n 1, 1) := by decide +kernel
theorem dX9_shift_53 : decode cX9_shift 53 = .ok (.iaload, 1) := by decide +kernel
theorem dX9_shift_54 : decode cX9_shift 54 = .ok (.aload_n 0, 1) := by decide +kernel
theorem dX9_shift_55 : decode cX9_shift 55 = .ok (.getfield 79, 3) := by decide +kernel
theorem dX9_shift_58 : decode cX9_shift 58 = .ok (.iload_n 3, 1) := by decide +kernel
theorem dX9_shift_59 : decode cX9_shift 59 = .ok (.iaload, 1) := by decide +kernel
theorem dX9_shift_60 : decode cX9_shift 60 = .ok (.if_icmp .eq 6, 3) := by decide +kernel
theorem dX9_shift_63 : decode cX9_shift 63 = .ok (.bipush (-12), 2) := by decide +kernel
theorem dX9_shift_65 : decode cX9_shift 65 = .ok (.ireturn, 1) := by decide +kernel
theorem dX9_shift_66 : decode cX9_shift 66 = .ok (.iload 5, 2) := by decide +kernel
theorem dX9_shift_68 : decode cX9_shift 68 = .ok (.ifCond .lt 39, 3) := by decide +kernel
theorem dX9_shift_71 : decode cX9_shift 71 = .ok (.iload_n 2, 1) := by decide +kernel
theorem dX9_shift_72 : decode cX9_shift 72 = .ok (.ifCond .lt 35, 3) := by decide +kernel
theorem dX9_shift_75 : decode cX9_shift 75 = .ok (.iload 4, 2) := by decide +kernel
theorem dX9_shift_77 : decode cX9_shift 77 = .ok (.ifCond .lt 30, 3) := by decide +kernel
theorem dX9_shift_80 : decode cX9_shift 80 = .ok (.iload_n 2, 1) := by decide +kernel
theorem dX9_shift_81 : decode cX9_shift 81 = .ok (.aload_n 0, 1) := by decide +kernel
theorem dX9_shift_82 : decode cX9_shift 82 = .ok (.getfield 82, 3) := by decide +kernel
theorem dX9_shift_85 : decode cX9_shift 85 = .ok (.iload_n 1, 1) := by decide +kernel
theorem dX9_shift_86 : decode cX9_shift 86 = .ok (.iaload, 1) := by decide +kernel
theorem dX9_shift_87 : decode cX9_shift 87 = .ok (.iload 5, 2) := by decide +kernel
theorem dX9_shift_89 : decode cX9_shift 89 = .ok (.isub, 1) := by decide +kernel
theorem dX9_shift_90 : decode cX9_shift 90 = .ok (.if_icmp .gt 17, 3) := by decide +kernel
theorem dX9_shift_93 : decode cX9_shift 93 = .ok (.iload 4, 2) := by decide +kernel
theorem dX9_shift_95 : decode cX9_shift 95 = .ok (.aload_n 0, 1) := by decide +kernel
theorem dX9_shift_96 : decode cX9_shift 96 = .ok (.getfield 82, 3) := by decide +kernel
theorem dX9_shift_99 : decode cX9_shift 99 = .ok (.iload_n 3, 1) := by decide +kernel
theorem dX9_shift_100 : decode cX9_shift 100 = .ok (.iaload, 1) := by decide +kernel
theorem dX9_shift_101 : decode cX9_shift 101 = .ok (.iload 5, 2) := by decide +kernel
theorem dX9_shift_103 : decode cX9_shift 103 = .ok (.isub, 1) := by decide +kernel
theorem dX9_shift_104 : decode cX9_shift 104 = .ok (.if_icmp .le 6, 3) := by decide +kernel
theorem dX9_shift_107 : decode cX9_shift 107 = .ok (.bipush (-13), 2) := by decide +kernel
theorem dX9_shift_109 : decode cX9_shift 109 = .ok (.ireturn, 1) := by decide +kernel
theorem dX9_shift_110 : decode cX9_shift 110 = .ok (.iconst 0, 1) := by decide +kernel
theorem dX9_shift_111 : decode cX9_shift 111 = .ok (.istore 6, 2) := by decide +kernel
theorem dX9_shift_113 : decode cX9_shift 113 = .ok (.iload 6, 2) := by decide +kernel
theorem dX9_shift_115 : decode cX9_shift 115 = .ok (.iload 5, 2) := by decide +kernel
theorem dX9_shift_117 : decode cX9_shift 117 = .ok (.if_icmp .ge 30, 3) := by decide +kernel
theorem dX9_shift_120 : decode cX9_shift 120 = .ok (.aload_n 0, 1) := by decide +kernel
theorem dX9_shift_121 : decode cX9_shift 121 = .ok (.getfield 89, 3) := by decide +kernel
theorem dX9_shift_124 : decode cX9_shift 124 = .ok (.iload 6, 2) := by decide +kernel
theorem dX9_shift_126 : decode cX9_shift 126 = .ok (.aload_n 0, 1) := by decide +kernel
theorem dX9_shift_127 : decode cX9_shift 127 = .ok (.getfield 85, 3) := by decide +kernel
theorem dX9_shift_130 : decode cX9_shift 130 = .ok (.bipush 60, 2) := by decide +kernel
theorem dX9_shift_132 : decode cX9_shift 132 = .ok (.iload_n 1, 1) := by decide +kernel
theorem dX9_shift_133 : decode cX9_shift 133 = .ok (.imul, 1) := by decide +kernel
theorem dX9_shift_134 : decode cX9_shift 134 = .ok (.iload_n 2, 1) := by decide +kernel
theorem dX9_shift_135 : decode cX9_shift 135 = .ok (.iadd, 1) := by decide +kernel
theorem dX9_shift_136 : decode cX9_shift 136 = .ok (.iload 6, 2) := by decide +kernel
theorem dX9_shift_138 : decode cX9_shift 138 = .ok (.iadd, 1) := by decide +kernel
theorem dX9_shift_139 : decode cX9_shift 139 = .ok (.laload, 1) := by decide +kernel
theorem dX9_shift_140 : decode cX9_shift 140 = .ok (.lastore, 1) := by decide +kernel
theorem dX9_shift_141 : decode cX9_shift 141 = .ok (.iinc 6 1, 3) := by decide +kernel
theorem dX9_shift_144 : decode cX9_shift 144 = .ok (.goto (-31), 3) := by decide +kernel
theorem dX9_shift_147 : decode cX9_shift 147 = .ok (.iconst 0, 1) := by decide +kernel
theorem dX9_shift_148 : decode cX9_shift 148 = .ok (.istore 6, 2) := by decide +kernel
theorem dX9_shift_150 : decode cX9_shift 150 = .ok (.iload 6, 2) := by decide +kernel
theorem dX9_shift_152 : decode cX9_shift 152 = .ok (.iload 5, 2) := by decide +kernel
theorem dX9_shift_154 : decode cX9_shift 154 = .ok (.if_icmp .ge 31, 3) := by decide +kernel
theorem dX9_shift_157 : decode cX9_shift 157 = .ok (.aload_n 0, 1) := by decide +kernel
theorem dX9_shift_158 : decode cX9_shift 158 = .ok (.getfield 85, 3) := by decide +kernel
theorem dX9_shift_161 : decode cX9_shift 161 = .ok (.bipush 60, 2) := by decide +kernel
theorem dX9_shift_163 : decode cX9_shift 163 = .ok (.iload_n 3, 1) := by decide +kernel
theorem dX9_shift_164 : decode cX9_shift 164 = .ok (.imul, 1) := by decide +kernel
theorem dX9_shift_165 : decode cX9_shift 165 = .ok (.iload 4, 2) := by decide +kernel
theorem dX9_shift_167 : decode cX9_shift 167 = .ok (.iadd, 1) := by decide +kernel
theorem dX9_shift_168 : decode cX9_shift 168 = .ok (.iload 6, 2) := by decide +kernel
theorem dX9_shift_170 : decode cX9_shift 170 = .ok (.iadd, 1) := by decide +kernel
theorem dX9_shift_171 : decode cX9_shift 171 = .ok (.aload_n 0, 1) := by decide +kernel
theorem dX9_shift_172 : decode cX9_shift 172 = .ok (.getfield 89, 3) := by decide +kernel
theorem dX9_shift_175 : decode cX9_shift 175 = .ok (.iload 6, 2) := by decide +kernel
theorem dX9_shift_177 : decode cX9_shift 177 = .ok (.laload, 1) := by decide +kernel
theorem dX9_shift_178 : decode cX9_shift 178 = .ok (.lastore, 1) := by decide +kernel
theorem dX9_shift_179 : decode cX9_shift 179 = .ok (.iinc 6 1, 3) := by decide +kernel
theorem dX9_shift_182 : decode cX9_shift 182 = .ok (.goto (-32), 3) := by decide +kernel
theorem dX9_shift_185 : decode cX9_shift 185 = .ok (.iload 5, 2) := by decide +kernel
theorem dX9_shift_187 : decode cX9_shift 187 = .ok (.ireturn, 1) := by decide +kernel
theorem dX9_taken_0 : decode cX9_taken 0 = .ok (.iload_n 1, 1) := by decide +kernel
theorem dX9_taken_1 : decode cX9_taken 1 = .ok (.invokestatic 239, 3) := by decide +kernel
theorem dX9_taken_4 : decode cX9_taken 4 = .ok (.ifCond .eq 15, 3) := by decide +kernel
theorem dX9_taken_7 : decode cX9_taken 7 = .ok (.iload_n 2, 1) := by decide +kernel
theorem dX9_taken_8 : decode cX9_taken 8 = .ok (.i2l, 1) := by decide +kernel
theorem dX9_taken_9 : decode cX9_taken 9 = .ok (.lconst 0, 1) := by decide +kernel
theorem dX9_taken_10 : decode cX9_taken 10 = .ok (.ldc2_w 319, 3) := by decide +kernel
theorem dX9_taken_13 : decode cX9_taken 13 = .ok (.invokestatic 102, 3) := by decide +kernel
theorem dX9_taken_16 : decode cX9_taken 16 = .ok (.ifCond .ne 5, 3) := by decide +kernel
theorem dX9_taken_19 : decode cX9_taken 19 = .ok (.iconst (-1), 1) := by decide +kernel
theorem dX9_taken_20 : decode cX9_taken 20 = .ok (.ireturn, 1) := by decide +kernel
theorem dX9_taken_21 : decode cX9_taken 21 = .ok (.aload_n 0, 1) := by decide +kernel
theorem dX9_taken_22 : decode cX9_taken 22 = .ok (.getfield 79, 3) := by decide +kernel
theorem dX9_taken_25 : decode cX9_taken 25 = .ok (.iload_n 1, 1) := by decide +kernel
theorem dX9_taken_26 : decode cX9_taken 26 = .ok (.iaload, 1) := by decide +kernel
theorem dX9_taken_27 : decode cX9_taken 27 = .ok (.ifCond .ge 6, 3) := by decide +kernel
theorem dX9_taken_30 : decode cX9_taken 30 = .ok (.bipush (-11), 2) := by decide +kernel
theorem dX9_taken_32 : decode cX9_taken 32 = .ok (.ireturn, 1) := by decide +kernel
theorem dX9_taken_33 : decode cX9_taken 33 = .ok (.aload_n 0, 1) := by decide +kernel
theorem dX9_taken_34 : decode cX9_taken 34 = .ok (.getfield 79, 3) := by decide +kernel
theorem dX9_taken_37 : decode cX9_taken 37 = .ok (.iload_n 1, 1) := by decide +kernel
theorem dX9_taken_38 : decode cX9_taken 38 = .ok (.iaload, 1) := by decide +kernel
theorem dX9_taken_39 : decode cX9_taken 39 = .ok (.bipush 50, 2) := by decide +kernel
theorem dX9_taken_41 : decode cX9_taken 41 = .ok (.if_icmp .lt 6, 3) := by decide +kernel
theorem dX9_taken_44 : decode cX9_taken 44 = .ok (.bipush (-12), 2) := by decide +kernel
theorem dX9_taken_46 : decode cX9_taken 46 = .ok (.ireturn, 1) := by decide +kernel
theorem dX9_taken_47 : decode cX9_taken 47 = .ok (.aload_n 0, 1) := by decide +kernel
theorem dX9_taken_48 : decode cX9_taken 48 = .ok (.aload_n 0, 1) := by decide +kernel
theorem dX9_taken_49 : decode cX9_taken 49 = .ok (.getfield 79, 3) := by decide +kernel
theorem dX9_taken_52 : decode cX9_taken 52 = .ok (.iload_n 1, 1) := by decide +kernel
theorem dX9_taken_53 : decode cX9_taken 53 = .ok (.iaload, 1) := by decide +kernel
theorem dX9_taken_54 : decode cX9_taken 54 = .ok (.invokevirtual 361, 3) := by decide +kernel
theorem dX9_taken_57 : decode cX9_taken 57 = .ok (.istore_n 3, 1) := by decide +kernel
theorem dX9_taken_58 : decode cX9_taken 58 = .ok (.iload_n 3, 1) := by decide +kernel
theorem dX9_taken_59 : decode cX9_taken 59 = .ok (.iload_n 2, 1) := by decide +kernel
theorem dX9_taken_60 : decode cX9_taken 60 = .ok (.if_icmp .eq 15, 3) := by decide +kernel
theorem dX9_taken_63 : decode cX9_taken 63 = .ok (.iload_n 3, 1) := by decide +kernel
theorem dX9_taken_64 : decode cX9_taken 64 = .ok (.ifCond .le 11, 3) := by decide +kernel
theorem dX9_taken_67 : decode cX9_taken 67 = .ok (.iload_n 3, 1) := by decide +kernel
theorem dX9_taken_68 : decode cX9_taken 68 = .ok (.invokestatic 364, 3) := by decide +kernel
theorem dX9_taken_71 : decode cX9_taken 71 = .ok (.istore_n 3, 1) := by decide +kernel
theorem dX9_taken_72 : decode cX9_taken 72 = .ok (.goto (-14), 3) := by decide +kernel
theorem dX9_taken_75 : decode cX9_taken 75 = .ok (.iload_n 3, 1) := by decide +kernel
theorem dX9_taken_76 : decode cX9_taken 76 = .ok (.iload_n 2, 1) := by decide +kernel
theorem dX9_taken_77 : decode cX9_taken 77 = .ok (.if_icmp .ne 16, 3) := by decide +kernel
theorem dX9_taken_80 : decode cX9_taken 80 = .ok (.aload_n 0, 1) := by decide +kernel
theorem dX9_taken_81 : decode cX9_taken 81 = .ok (.aload_n 0, 1) := by decide +kernel
theorem dX9_taken_82 : decode cX9_taken 82 = .ok (.getfield 79, 3) := by decide +kernel
theorem dX9_taken_85 : decode cX9_taken 85 = .ok (.iload_n 1, 1) := by decide +kernel
theorem dX9_taken_86 : decode cX9_taken 86 = .ok (.iaload, 1) := by decide +kernel
theorem dX9_taken_87 : decode cX9_taken 87 = .ok (.invokevirtual 361, 3) := by decide +kernel
theorem dX9_taken_90 : decode cX9_taken 90 = .ok (.goto 5, 3) := by decide +kernel
theorem dX9_taken_93 : decode cX9_taken 93 = .ok (.bipush (-12), 2) := by decide +kernel
theorem dX9_taken_95 : decode cX9_taken 95 = .ok (.ireturn, 1) := by decide +kernel
theorem dX9_count_0 : decode cX9_count 0 = .ok (.iload_n 1, 1) := by decide +kernel
theorem dX9_count_1 : decode cX9_count 1 = .ok (.tableswitch 78 0 6 #[43, 48, 53, 58, 63, 68, 73], 43) := by decide +kernel
theorem dX9_count_44 : decode cX9_count 44 = .ok (.aload_n 0, 1) := by decide +kernel
theorem dX9_count_45 : decode cX9_count 45 = .ok (.getfield 99, 3) := by decide +kernel
theorem dX9_count_48 : decode cX9_count 48 = .ok (.ireturn, 1) := by decide +kernel
theorem dX9_count_49 : decode cX9_count 49 = .ok (.aload_n 0, 1) := by decide +kernel
theorem dX9_count_50 : decode cX9_count 50 = .ok (.getfield 106, 3) := by decide +kernel
theorem dX9_count_53 : decode cX9_count 53 = .ok (.ireturn, 1) := by decide +kernel
theorem dX9_count_54 : decode cX9_count 54 = .ok (.aload_n 0, 1) := by decide +kernel
theorem dX9_count_55 : decode cX9_count 55 = .ok (.getfield 174, 3) := by decide +kernel
theorem dX9_count_58 : decode cX9_count 58 = .ok (.ireturn, 1) := by decide +kernel
theorem dX9_count_59 : decode cX9_count 59 = .ok (.aload_n 0, 1) := by decide +kernel
theorem dX9_count_60 : decode cX9_count 60 = .ok (.getfield 121, 3) := by decide +kernel
theorem dX9_count_63 : decode cX9_count 63 = .ok (.ireturn, 1) := by decide +kernel
theorem dX9_count_64 : decode cX9_count 64 = .ok (.aload_n 0, 1) := by decide +kernel
theorem dX9_count_65 : decode cX9_count 65 = .ok (.getfield 92, 3) := by decide +kernel
theorem dX9_count_68 : decode cX9_count 68 = .ok (.ireturn, 1) := by decide +kernel
theorem dX9_count_69 : decode cX9_count 69 = .ok (.aload_n 0, 1) := by decide +kernel
theorem dX9_count_70 : decode cX9_count 70 = .ok (.getfield 316, 3) := by decide +kernel
theorem dX9_count_73 : decode cX9_count 73 = .ok (.ireturn, 1) := by decide +kernel
theorem dX9_count_74 : decode cX9_count 74 = .ok (.aload_n 0, 1) := by decide +kernel
theorem dX9_count_75 : decode cX9_count 75 = .ok (.getfield 321, 3) := by decide +kernel
theorem dX9_count_78 : decode cX9_count 78 = .ok (.ireturn, 1) := by decide +kernel
theorem dX9_count_79 : decode cX9_count 79 = .ok (.iconst (-1), 1) := by decide +kernel
theorem dX9_count_80 : decode cX9_count 80 = .ok (.ireturn, 1) := by decide +kernel
