theorem dX8_init_0 : decode cX8_init 0 = .ok (.aload_n 0, 1) := by decide +kernel
theorem dX8_init_1 : decode cX8_init 1 = .ok (.invokespecial 1, 3) := by decide +kernel
theorem dX8_init_4 : decode cX8_init 4 = .ok (.aload_n 0, 1) := by decide +kernel
theorem dX8_init_5 : decode cX8_init 5 = .ok (.new 7, 3) := by decide +kernel
theorem dX8_init_8 : decode cX8_init 8 = .ok (.dup, 1) := by decide +kernel
theorem dX8_init_9 : decode cX8_init 9 = .ok (.invokespecial 9, 3) := by decide +kernel
theorem dX8_init_12 : decode cX8_init 12 = .ok (.putfield 10, 3) := by decide +kernel
theorem dX8_init_15 : decode cX8_init 15 = .ok (.aload_n 0, 1) := by decide +kernel
theorem dX8_init_16 : decode cX8_init 16 = .ok (.new 16, 3) := by decide +kernel
theorem dX8_init_19 : decode cX8_init 19 = .ok (.dup, 1) := by decide +kernel
theorem dX8_init_20 : decode cX8_init 20 = .ok (.invokespecial 18, 3) := by decide +kernel
theorem dX8_init_23 : decode cX8_init 23 = .ok (.putfield 19, 3) := by decide +kernel
theorem dX8_init_26 : decode cX8_init 26 = .ok (.aload_n 0, 1) := by decide +kernel
theorem dX8_init_27 : decode cX8_init 27 = .ok (.bipush 6, 2) := by decide +kernel
theorem dX8_init_29 : decode cX8_init 29 = .ok (.anewarray 23, 3) := by decide +kernel
theorem dX8_init_32 : decode cX8_init 32 = .ok (.putfield 25, 3) := by decide +kernel
theorem dX8_init_35 : decode cX8_init 35 = .ok (.aload_n 0, 1) := by decide +kernel
theorem dX8_init_36 : decode cX8_init 36 = .ok (.bipush 9, 2) := by decide +kernel
theorem dX8_init_38 : decode cX8_init 38 = .ok (.anewarray 29, 3) := by decide +kernel
theorem dX8_init_41 : decode cX8_init 41 = .ok (.putfield 31, 3) := by decide +kernel
theorem dX8_init_44 : decode cX8_init 44 = .ok (.aload_n 0, 1) := by decide +kernel
theorem dX8_init_45 : decode cX8_init 45 = .ok (.new 35, 3) := by decide +kernel
theorem dX8_init_48 : decode cX8_init 48 = .ok (.dup, 1) := by decide +kernel
theorem dX8_init_49 : decode cX8_init 49 = .ok (.invokespecial 37, 3) := by decide +kernel
theorem dX8_init_52 : decode cX8_init 52 = .ok (.putfield 38, 3) := by decide +kernel
theorem dX8_init_55 : decode cX8_init 55 = .ok (.aload_n 0, 1) := by decide +kernel
theorem dX8_init_56 : decode cX8_init 56 = .ok (.new 42, 3) := by decide +kernel
theorem dX8_init_59 : decode cX8_init 59 = .ok (.dup, 1) := by decide +kernel
theorem dX8_init_60 : decode cX8_init 60 = .ok (.invokespecial 44, 3) := by decide +kernel
theorem dX8_init_63 : decode cX8_init 63 = .ok (.putfield 45, 3) := by decide +kernel
theorem dX8_init_66 : decode cX8_init 66 = .ok (.aload_n 0, 1) := by decide +kernel
theorem dX8_init_67 : decode cX8_init 67 = .ok (.bipush 6, 2) := by decide +kernel
theorem dX8_init_69 : decode cX8_init 69 = .ok (.anewarray 49, 3) := by decide +kernel
theorem dX8_init_72 : decode cX8_init 72 = .ok (.putfield 51, 3) := by decide +kernel
theorem dX8_init_75 : decode cX8_init 75 = .ok (.aload_n 0, 1) := by decide +kernel
theorem dX8_init_76 : decode cX8_init 76 = .ok (.new 29, 3) := by decide +kernel
theorem dX8_init_79 : decode cX8_init 79 = .ok (.dup, 1) := by decide +kernel
theorem dX8_init_80 : decode cX8_init 80 = .ok (.aload_n 0, 1) := by decide +kernel
theorem dX8_init_81 : decode cX8_init 81 = .ok (.getfield 10, 3) := by decide +kernel
theorem dX8_init_84 : decode cX8_init 84 = .ok (.invokespecial 55, 3) := by decide +kernel
theorem dX8_init_87 : decode cX8_init 87 = .ok (.putfield 58, 3) := by decide +kernel
theorem dX8_init_90 : decode cX8_init 90 = .ok (.aload_n 0, 1) := by decide +kernel
theorem dX8_init_91 : decode cX8_init 91 = .ok (.new 29, 3) := by decide +kernel
theorem dX8_init_94 : decode cX8_init 94 = .ok (.dup, 1) := by decide +kernel
theorem dX8_init_95 : decode cX8_init 95 = .ok (.aload_n 0, 1) := by decide +kernel
theorem dX8_init_96 : decode cX8_init 96 = .ok (.getfield 10, 3) := by decide +kernel
theorem dX8_init_99 : decode cX8_init 99 = .ok (.invokespecial 55, 3) := by decide +kernel
theorem dX8_init_102 : decode cX8_init 102 = .ok (.putfield 62, 3) := by decide +kernel
theorem dX8_init_105 : decode cX8_init 105 = .ok (.aload_n 0, 1) := by decide +kernel
theorem dX8_init_106 : decode cX8_init 106 = .ok (.new 65, 3) := by decide +kernel
theorem dX8_init_109 : decode cX8_init 109 = .ok (.dup, 1) := by decide +kernel
theorem dX8_init_110 : decode cX8_init 110 = .ok (.aload_n 0, 1) := by decide +kernel
theorem dX8_init_111 : decode cX8_init 111 = .ok (.getfield 10, 3) := by decide +kernel
theorem dX8_init_114 : decode cX8_init 114 = .ok (.aload_n 0, 1) := by decide +kernel
theorem dX8_init_115 : decode cX8_init 115 = .ok (.getfield 58, 3) := by decide +kernel
theorem dX8_init_118 : decode cX8_init 118 = .ok (.invokespecial 67, 3) := by decide +kernel
theorem dX8_init_121 : decode cX8_init 121 = .ok (.putfield 70, 3) := by decide +kernel
theorem dX8_init_124 : decode cX8_init 124 = .ok (.aload_n 0, 1) := by decide +kernel
theorem dX8_init_125 : decode cX8_init 125 = .ok (.bipush 7, 2) := by decide +kernel
theorem dX8_init_127 : decode cX8_init 127 = .ok (.newarray .int, 2) := by decide +kernel
theorem dX8_init_129 : decode cX8_init 129 = .ok (.putfield 74, 3) := by decide +kernel
theorem dX8_init_132 : decode cX8_init 132 = .ok (.aload_n 0, 1) := by decide +kernel
theorem dX8_init_133 : decode cX8_init 133 = .ok (.bipush 12, 2) := by decide +kernel
theorem dX8_init_135 : decode cX8_init 135 = .ok (.newarray .int, 2) := by decide +kernel
theorem dX8_init_137 : decode cX8_init 137 = .ok (.putfield 78, 3) := by decide +kernel
theorem dX8_init_140 : decode cX8_init 140 = .ok (.aload_n 0, 1) := by decide +kernel
theorem dX8_init_141 : decode cX8_init 141 = .ok (.bipush 12, 2) := by decide +kernel
theorem dX8_init_143 : decode cX8_init 143 = .ok (.newarray .int, 2) := by decide +kernel
theorem dX8_init_145 : decode cX8_init 145 = .ok (.putfield 81, 3) := by decide +kernel
theorem dX8_init_148 : decode cX8_init 148 = .ok (.aload_n 0, 1) := by decide +kernel
theorem dX8_init_149 : decode cX8_init 149 = .ok (.bipush 36, 2) := by decide +kernel
theorem dX8_init_151 : decode cX8_init 151 = .ok (.newarray .int, 2) := by decide +kernel
theorem dX8_init_153 : decode cX8_init 153 = .ok (.putfield 84, 3) := by decide +kernel
theorem dX8_init_156 : decode cX8_init 156 = .ok (.iconst 0, 1) := by decide +kernel
theorem dX8_init_157 : decode cX8_init 157 = .ok (.istore_n 1, 1) := by decide +kernel
theorem dX8_init_158 : decode cX8_init 158 = .ok (.iload_n 1, 1) := by decide +kernel
theorem dX8_init_159 : decode cX8_init 159 = .ok (.bipush 6, 2) := by decide +kernel
theorem dX8_init_161 : decode cX8_init 161 = .ok (.if_icmp .ge 22, 3) := by decide +kernel
theorem dX8_init_164 : decode cX8_init 164 = .ok (.aload_n 0, 1) := by decide +kernel
theorem dX8_init_165 : decode cX8_init 165 = .ok (.getfield 51, 3) := by decide +kernel
theorem dX8_init_168 : decode cX8_init 168 = .ok (.iload_n 1, 1) := by decide +kernel
theorem dX8_init_169 : decode cX8_init 169 = .ok (.new 49, 3) := by decide +kernel
theorem dX8_init_172 : decode cX8_init 172 = .ok (.dup, 1) := by decide +kernel
theorem dX8_init_173 : decode cX8_init 173 = .ok (.invokespecial 87, 3) := by decide +kernel
theorem dX8_init_176 : decode cX8_init 176 = .ok (.aastore, 1) := by decide +kernel
theorem dX8_init_177 : decode cX8_init 177 = .ok (.iinc 1 1, 3) := by decide +kernel
theorem dX8_init_180 : decode cX8_init 180 = .ok (.goto (-22), 3) := by decide +kernel
theorem dX8_init_183 : decode cX8_init 183 = .ok (.return_, 1) := by decide +kernel
theorem dX8_song_0 : decode cX8_song 0 = .ok (.iload_n 1, 1) := by decide +kernel
theorem dX8_song_1 : decode cX8_song 1 = .ok (.ifCond .lt 10, 3) := by decide +kernel
theorem dX8_song_4 : decode cX8_song 4 = .ok (.iload_n 1, 1) := by decide +kernel
theorem dX8_song_5 : decode cX8_song 5 = .ok (.sipush 999, 3) := by decide +kernel
theorem dX8_song_8 : decode cX8_song 8 = .ok (.if_icmp .le 5, 3) := by decide +kernel
theorem dX8_song_11 : decode cX8_song 11 = .ok (.iconst (-1), 1) := by decide +kernel
theorem dX8_song_12 : decode cX8_song 12 = .ok (.ireturn, 1) := by decide +kernel
theorem dX8_song_13 : decode cX8_song 13 = .ok (.aload_n 0, 1) := by decide +kernel
theorem dX8_song_14 : decode cX8_song 14 = .ok (.getfield 10, 3) := by decide +kernel
theorem dX8_song_17 : decode cX8_song 17 = .ok (.getfield 88, 3) := by decide +kernel
theorem dX8_song_20 : decode cX8_song 20 = .ok (.bipush 12, 2) := by decide +kernel
theorem dX8_song_22 : decode cX8_song 22 = .ok (.if_icmp .lt 6, 3) := by decide +kernel
theorem dX8_song_25 : decode cX8_song 25 = .ok (.bipush (-3), 2) := by decide +kernel
theorem dX8_song_27 : decode cX8_song 27 = .ok (.ireturn, 1) := by decide +kernel
theorem dX8_song_28 : decode cX8_song 28 = .ok (.aload_n 0, 1) := by decide +kernel
theorem dX8_song_29 : decode cX8_song 29 = .ok (.getfield 10, 3) := by decide +kernel
theorem dX8_song_32 : decode cX8_song 32 = .ok (.getfield 92, 3) := by decide +kernel
theorem dX8_song_35 : decode cX8_song 35 = .ok (.aload_n 0, 1) := by decide +kernel
theorem dX8_song_36 : decode cX8_song 36 = .ok (.getfield 10, 3) := by decide +kernel
theorem dX8_song_39 : decode cX8_song 39 = .ok (.getfield 88, 3) := by decide +kernel
theorem dX8_song_42 : decode cX8_song 42 = .ok (.iload_n 1, 1) := by decide +kernel
theorem dX8_song_43 : decode cX8_song 43 = .ok (.iastore, 1) := by decide +kernel
theorem dX8_song_44 : decode cX8_song 44 = .ok (.aload_n 0, 1) := by decide +kernel
theorem dX8_song_45 : decode cX8_song 45 = .ok (.getfield 10, 3) := by decide +kernel
theorem dX8_song_48 : decode cX8_song 48 = .ok (.dup, 1) := by decide +kernel
theorem dX8_song_49 : decode cX8_song 49 = .ok (.getfield 88, 3) := by decide +kernel
theorem dX8_song_52 : decode cX8_song 52 = .ok (.iconst 1, 1) := by decide +kernel
theorem dX8_song_53 : decode cX8_song 53 = .ok (.iadd, 1) := by decide +kernel
theorem dX8_song_54 : decode cX8_song 54 = .ok (.putfield 88, 3) := by decide +kernel
theorem dX8_song_57 : decode cX8_song 57 = .ok (.aload_n 0, 1) := by decide +kernel
theorem dX8_song_58 : decode cX8_song 58 = .ok (.getfield 10, 3) := by decide +kernel
theorem dX8_song_61 : decode cX8_song 61 = .ok (.getfield 88, 3) := by decide +kernel
theorem dX8_song_64 : decode cX8_song 64 = .ok (.iconst 1, 1) := by decide +kernel
theorem dX8_song_65 : decode cX8_song 65 = .ok (.isub, 1) := by decide +kernel
theorem dX8_song_66 : decode cX8_song 66 = .ok (.ireturn, 1) := by decide +kernel
theorem dX8_worth_0 : decode cX8_worth 0 = .ok (.aload_n 0, 1) := by decide +kernel
theorem dX8_worth_1 : decode cX8_worth 1 = .ok (.getfield 10, 3) := by decide +kernel
theorem dX8_worth_4 : decode cX8_worth 4 = .ok (.iload_n 1, 1) := by decide +kernel
theorem dX8_worth_5 : decode cX8_worth 5 = .ok (.invokevirtual 95, 3) := by decide +kernel
theorem dX8_worth_8 : decode cX8_worth 8 = .ok (.ifCond .eq 14, 3) := by decide +kernel
theorem dX8_worth_11 : decode cX8_worth 11 = .ok (.iload_n 2, 1) := by decide +kernel
theorem dX8_worth_12 : decode cX8_worth 12 = .ok (.ifCond .lt 10, 3) := by decide +kernel
theorem dX8_worth_15 : decode cX8_worth 15 = .ok (.iload_n 2, 1) := by decide +kernel
theorem dX8_worth_16 : decode cX8_worth 16 = .ok (.sipush 999, 3) := by decide +kernel
theorem dX8_worth_19 : decode cX8_worth 19 = .ok (.if_icmp .le 5, 3) := by decide +kernel
theorem dX8_worth_22 : decode cX8_worth 22 = .ok (.iconst (-1), 1) := by decide +kernel
theorem dX8_worth_23 : decode cX8_worth 23 = .ok (.ireturn, 1) := by decide +kernel
theorem dX8_worth_24 : decode cX8_worth 24 = .ok (.aload_n 0, 1) := by decide +kernel
theorem dX8_worth_25 : decode cX8_worth 25 = .ok (.getfield 10, 3) := by decide +kernel
theorem dX8_worth_28 : decode cX8_worth 28 = .ok (.getfield 92, 3) := by decide +kernel
theorem dX8_worth_31 : decode cX8_worth 31 = .ok (.iload_n 1, 1) := by decide +kernel
theorem dX8_worth_32 : decode cX8_worth 32 = .ok (.iaload, 1) := by decide +kernel
theorem dX8_worth_33 : decode cX8_worth 33 = .ok (.istore_n 3, 1) := by decide +kernel
theorem dX8_worth_34 : decode cX8_worth 34 = .ok (.aload_n 0, 1) := by decide +kernel
theorem dX8_worth_35 : decode cX8_worth 35 = .ok (.getfield 10, 3) := by decide +kernel
theorem dX8_worth_38 : decode cX8_worth 38 = .ok (.getfield 92, 3) := by decide +kernel
theorem dX8_worth_41 : decode cX8_worth 41 = .ok (.iload_n 1, 1) := by decide +kernel
theorem dX8_worth_42 : decode cX8_worth 42 = .ok (.iload_n 2, 1) := by decide +kernel
theorem dX8_worth_43 : decode cX8_worth 43 = .ok (.iastore, 1) := by decide +kernel
theorem dX8_worth_44 : decode cX8_worth 44 = .ok (.aload_n 0, 1) := by decide +kernel
theorem dX8_worth_45 : decode cX8_worth 45 = .ok (.getfield 38, 3) := by decide +kernel
theorem dX8_worth_48 : decode cX8_worth 48 = .ok (.iconst (-1), 1) := by decide +kernel
theorem dX8_worth_49 : decode cX8_worth 49 = .ok (.iload_n 1, 1) := by decide +kernel
theorem dX8_worth_50 : decode cX8_worth 50 = .ok (.iload_n 3, 1) := by decide +kernel
theorem dX8_worth_51 : decode cX8_worth 51 = .ok (.iload_n 2, 1) := by decide +kernel
theorem dX8_worth_52 : decode cX8_worth 52 = .ok (.invokevirtual 99, 3) := by decide +kernel
theorem dX8_worth_55 : decode cX8_worth 55 = .ok (.iload_n 3, 1) := by decide +kernel
theorem dX8_worth_56 : decode cX8_worth 56 = .ok (.ireturn, 1) := by decide +kernel
theorem dX8_feed_0 : decode cX8_feed 0 = .ok (.iload_n 1, 1) := by decide +kernel
theorem dX8_feed_1 : decode cX8_feed 1 = .ok (.iconst 1, 1) := by decide +kernel
theorem dX8_feed_2 : decode cX8_feed 2 = .ok (.if_icmp .lt 8, 3) := by decide +kernel
theorem dX8_feed_5 : decode cX8_feed 5 = .ok (.iload_n 1, 1) := by decide +kernel
theorem dX8_feed_6 : decode cX8_feed 6 = .ok (.iconst 4, 1) := by decide +kernel
theorem dX8_feed_7 : decode cX8_feed 7 = .ok (.if_icmp .le 5, 3) := by decide +kernel
theorem dX8_feed_10 : decode cX8_feed 10 = .ok (.iconst (-1), 1) := by decide +kernel
theorem dX8_feed_11 : decode cX8_feed 11 = .ok (.ireturn, 1) := by decide +kernel
theorem dX8_feed_12 : decode cX8_feed 12 = .ok (.aload_n 0, 1) := by decide +kernel
theorem dX8_feed_13 : decode cX8_feed 13 = .ok (.getfield 19, 3) := by decide +kernel
theorem dX8_feed_16 : decode cX8_feed 16 = .ok (.getfield 103, 3) := by decide +kernel
theorem dX8_feed_19 : decode cX8_feed 19 = .ok (.iload_n 1, 1) := by decide +kernel
theorem dX8_feed_20 : decode cX8_feed 20 = .ok (.iadd, 1) := by decide +kernel
theorem dX8_feed_21 : decode cX8_feed 21 = .ok (.bipush 120, 2) := by decide +kernel
theorem dX8_feed_23 : decode cX8_feed 23 = .ok (.if_icmp .le 6, 3) := by decide +kernel
theorem dX8_feed_26 : decode cX8_feed 26 = .ok (.bipush (-3), 2) := by decide +kernel
theorem dX8_feed_28 : decode cX8_feed 28 = .ok (.ireturn, 1) := by decide +kernel
theorem dX8_feed_29 : decode cX8_feed 29 = .ok (.iconst 0, 1) := by decide +kernel
theorem dX8_feed_30 : decode cX8_feed 30 = .ok (.istore_n 3, 1) := by decide +kernel
theorem dX8_feed_31 : decode cX8_feed 31 = .ok (.iload_n 3, 1) := by decide +kernel
theorem dX8_feed_32 : decode cX8_feed 32 = .ok (.iload_n 1, 1) := by decide +kernel
theorem dX8_feed_33 : decode cX8_feed 33 = .ok (.if_icmp .ge 26, 3) := by decide +kernel
theorem dX8_feed_36 : decode cX8_feed 36 = .ok (.aload_n 0, 1) := by decide +kernel
theorem dX8_feed_37 : decode cX8_feed 37 = .ok (.getfield 19, 3) := by decide +kernel
theorem dX8_feed_40 : decode cX8_feed 40 = .ok (.iload_n 2, 1) := by decide +kernel
theorem dX8_feed_41 : decode cX8_feed 41 = .ok (.bipush 8, 2) := by decide +kernel
theorem dX8_feed_43 : decode cX8_feed 43 = .ok (.iload_n 3, 1) := by decide +kernel
theorem dX8_feed_44 : decode cX8_feed 44 = .ok (.imul, 1) := by decide +kernel
theorem dX8_feed_45 : decode cX8_feed 45 = .ok (.iushr, 1) := by decide +kernel
theorem dX8_feed_46 : decode cX8_feed 46 = .ok (.sipush 255, 3) := by decide +kernel
theorem dX8_feed_49 : decode cX8_feed 49 = .ok (.iand, 1) := by decide +kernel
theorem dX8_feed_50 : decode cX8_feed 50 = .ok (.invokevirtual 106, 3) := by decide +kernel
theorem dX8_feed_53 : decode cX8_feed 53 = .ok (.iinc 3 1, 3) := by decide +kernel
theorem dX8_feed_56 : decode cX8_feed 56 = .ok (.goto (-25), 3) := by decide +kernel
theorem dX8_feed_59 : decode cX8_feed 59 = .ok (.aload_n 0, 1) := by decide +kernel
theorem dX8_feed_60 : decode cX8_feed 60 = .ok (.getfield 19, 3) := by decide +kernel
theorem dX8_feed_63 : decode cX8_feed 63 = .ok (.getfield 103, 3) := by decide +kernel
theorem dX8_feed_66 : decode cX8_feed 66 = .ok (.ireturn, 1) := by decide +kernel
theorem dX8_law_0 : decode cX8_law 0 = .ok (.aload_n 0, 1) := by decide +kernel
theorem dX8_law_1 : decode cX8_law 1 = .ok (.getfield 110, 3) := by decide +kernel
theorem dX8_law_4 : decode cX8_law 4 = .ok (.bipush 6, 2) := by decide +kernel
theorem dX8_law_6 : decode cX8_law 6 = .ok (.if_icmp .lt 6, 3) := by decide +kernel
theorem dX8_law_9 : decode cX8_law 9 = .ok (.bipush (-3), 2) := by decide +kernel
theorem dX8_law_11 : decode cX8_law 11 = .ok (.ireturn, 1) := by decide +kernel
theorem dX8_law_12 : decode cX8_law 12 = .ok (.aload_n 0, 1) := by decide +kernel
theorem dX8_law_13 : decode cX8_law 13 = .ok (.getfield 19, 3) := by decide +kernel
theorem dX8_law_16 : decode cX8_law 16 = .ok (.invokevirtual 113, 3) := by decide +kernel
theorem dX8_law_19 : decode cX8_law 19 = .ok (.istore_n 1, 1) := by decide +kernel
theorem dX8_law_20 : decode cX8_law 20 = .ok (.iload_n 1, 1) := by decide +kernel
theorem dX8_law_21 : decode cX8_law 21 = .ok (.ifCond .lt 8, 3) := by decide +kernel
theorem dX8_law_24 : decode cX8_law 24 = .ok (.bipush (-100), 2) := by decide +kernel
theorem dX8_law_26 : decode cX8_law 26 = .ok (.iload_n 1, 1) := by decide +kernel
theorem dX8_law_27 : decode cX8_law 27 = .ok (.isub, 1) := by decide +kernel
theorem dX8_law_28 : decode cX8_law 28 = .ok (.ireturn, 1) := by decide +kernel
theorem dX8_law_29 : decode cX8_law 29 = .ok (.aload_n 0, 1) := by decide +kernel
theorem dX8_law_30 : decode cX8_law 30 = .ok (.getfield 25, 3) := by decide +kernel
theorem dX8_law_33 : decode cX8_law 33 = .ok (.aload_n 0, 1) := by decide +kernel
theorem dX8_law_34 : decode cX8_law 34 = .ok (.getfield 110, 3) := by decide +kernel
theorem dX8_law_37 : decode cX8_law 37 = .ok (.new 23, 3) := by decide +kernel
theorem dX8_law_40 : decode cX8_law 40 = .ok (.dup, 1) := by decide +kernel
theorem dX8_law_41 : decode cX8_law 41 = .ok (.aload_n 0, 1) := by decide +kernel
theorem dX8_law_42 : decode cX8_law 42 = .ok (.getfield 19, 3) := by decide +kernel
theorem dX8_law_45 : decode cX8_law 45 = .ok (.invokevirtual 117, 3) := by decide +kernel
theorem dX8_law_48 : decode cX8_law 48 = .ok (.invokespecial 121, 3) := by decide +kernel
theorem dX8_law_51 : decode cX8_law 51 = .ok (.aastore, 1) := by decide +kernel
theorem dX8_law_52 : decode cX8_law 52 = .ok (.aload_n 0, 1) := by decide +kernel
theorem dX8_law_53 : decode cX8_law 53 = .ok (.dup, 1) := by decide +kernel
theorem dX8_law_54 : decode cX8_law 54 = .ok (.getfield 110, 3) := by decide +kernel
theorem dX8_law_57 : decode cX8_law 57 = .ok (.iconst 1, 1) := by decide +kernel
theorem dX8_law_58 : decode cX8_law 58 = .ok (.iadd, 1) := by decide +kernel
theorem dX8_law_59 : decode cX8_law 59 = .ok (.putfield 110, 3) := by decide +kernel
theorem dX8_law_62 : decode cX8_law 62 = .ok (.aload_n 0, 1) := by decide +kernel
theorem dX8_law_63 : decode cX8_law 63 = .ok (.getfield 110, 3) := by decide +kernel
theorem dX8_law_66 : decode cX8_law 66 = .ok (.iconst 1, 1) := by decide +kernel
theorem dX8_law_67 : decode cX8_law 67 = .ok (.isub, 1) := by decide +kernel
theorem dX8_law_68 : decode cX8_law 68 = .ok (.ireturn, 1) := by decide +kernel
theorem dX8_world_0 : decode cX8_world 0 = .ok (.iload_n 1, 1) := by decide +kernel
theorem dX8_world_1 : decode cX8_world 1 = .ok (.ifCond .lt 7, 3) := by decide +kernel
theorem dX8_world_4 : decode cX8_world 4 = .ok (.iload_n 2, 1) := by decide +kernel
theorem dX8_world_5 : decode cX8_world 5 = .ok (.ifCond .ge 5, 3) := by decide +kernel
theorem dX8_world_8 : decode cX8_world 8 = .ok (.iconst (-1), 1) := by decide +kernel
theorem dX8_world_9 : decode cX8_world 9 = .ok (.ireturn, 1) := by decide +kernel
theorem dX8_world_10 : decode cX8_world 10 = .ok (.iload_n 1, 1) := by decide +kernel
theorem dX8_world_11 : decode cX8_world 11 = .ok (.bipush 10, 2) := by decide +kernel
theorem dX8_world_13 : decode cX8_world 13 = .ok (.irem, 1) := by decide +kernel
theorem dX8_world_14 : decode cX8_world 14 = .ok (.istore 4, 2) := by decide +kernel
theorem dX8_world_16 : decode cX8_world 16 = .ok (.iload_n 2, 1) := by decide +kernel
theorem dX8_world_17 : decode cX8_world 17 = .ok (.sipush 10000, 3) := by decide +kernel
theorem dX8_world_20 : decode cX8_world 20 = .ok (.idiv, 1) := by decide +kernel
theorem dX8_world_21 : decode cX8_world 21 = .ok (.istore 5, 2) := by decide +kernel
theorem dX8_world_23 : decode cX8_world 23 = .ok (.iload_n 2, 1) := by decide +kernel
theorem dX8_world_24 : decode cX8_world 24 = .ok (.sipush 10000, 3) := by decide +kernel
theorem dX8_world_27 : decode cX8_world 27 = .ok (.irem, 1) := by decide +kernel
theorem dX8_world_28 : decode cX8_world 28 = .ok (.istore 6, 2) := by decide +kernel
theorem dX8_world_30 : decode cX8_world 30 = .ok (.aload_n 0, 1) := by decide +kernel
theorem dX8_world_31 : decode cX8_world 31 = .ok (.iload_n 1, 1) := by decide +kernel
theorem dX8_world_32 : decode cX8_world 32 = .ok (.bipush 10, 2) := by decide +kernel
theorem dX8_world_34 : decode cX8_world 34 = .ok (.idiv, 1) := by decide +kernel
theorem dX8_world_35 : decode cX8_world 35 = .ok (.invokevirtual 124, 3) := by decide +kernel
theorem dX8_world_38 : decode cX8_world 38 = .ok (.astore 7, 2) := by decide +kernel
theorem dX8_world_40 : decode cX8_world 40 = .ok (.aload 7, 2) := by decide +kernel
theorem dX8_world_42 : decode cX8_world 42 = .ok (.ifnull 17, 3) := by decide +kernel
theorem dX8_world_45 : decode cX8_world 45 = .ok (.iload 4, 2) := by decide +kernel
theorem dX8_world_47 : decode cX8_world 47 = .ok (.iconst 2, 1) := by decide +kernel
theorem dX8_world_48 : decode cX8_world 48 = .ok (.if_icmp .gt 11, 3) := by decide +kernel
theorem dX8_world_51 : decode cX8_world 51 = .ok (.iload 5, 2) := by decide +kernel
theorem dX8_world_53 : decode cX8_world 53 = .ok (.sipush 999, 3) := by decide +kernel
theorem dX8_world_56 : decode cX8_world 56 = .ok (.if_icmp .le 5, 3) := by decide +kernel
theorem dX8_world_59 : decode cX8_world 59 = .ok (.iconst (-1), 1) := by decide +kernel
theorem dX8_world_60 : decode cX8_world 60 = .ok (.ireturn, 1) := by decide +kernel
theorem dX8_world_61 : decode cX8_world 61 = .ok (.aload_n 0, 1) := by decide +kernel
theorem dX8_world_62 : decode cX8_world 62 = .ok (.getfield 128, 3) := by decide +kernel
theorem dX8_world_65 : decode cX8_world 65 = .ok (.bipush 9, 2) := by decide +kernel
theorem dX8_world_67 : decode cX8_world 67 = .ok (.if_icmp .lt 6, 3) := by decide +kernel
theorem dX8_world_70 : decode cX8_world 70 = .ok (.bipush (-3), 2) := by decide +kernel
theorem dX8_world_72 : decode cX8_world 72 = .ok (.ireturn, 1) := by decide +kernel
theorem dX8_world_73 : decode cX8_world 73 = .ok (.new 29, 3) := by decide +kernel
theorem dX8_world_76 : decode cX8_world 76 = .ok (.dup, 1) := by decide +kernel
theorem dX8_world_77 : decode cX8_world 77 = .ok (.aload_n 0, 1) := by decide +kernel
theorem dX8_world_78 : decode cX8_world 78 = .ok (.getfield 10, 3) := by decide +kernel
theorem dX8_world_81 : decode cX8_world 81 = .ok (.invokespecial 55, 3) := by decide +kernel
theorem dX8_world_84 : decode cX8_world 84 = .ok (.astore 8, 2) := by decide +kernel
theorem dX8_world_86 : decode cX8_world 86 = .ok (.aload 8, 2) := by decide +kernel
theorem dX8_world_88 : decode cX8_world 88 = .ok (.aload 7, 2) := by decide +kernel
theorem dX8_world_90 : decode cX8_world 90 = .ok (.iload_n 3, 1) := by decide +kernel
theorem dX8_world_91 : decode cX8_world 91 = .ok (.invokevirtual 131, 3) := by decide +kernel
theorem dX8_world_94 : decode cX8_world 94 = .ok (.aload 8, 2) := by decide +kernel
theorem dX8_world_96 : decode cX8_world 96 = .ok (.iload_n 1, 1) := by decide +kernel
theorem dX8_world_97 : decode cX8_world 97 = .ok (.bipush 10, 2) := by decide +kernel
theorem dX8_world_99 : decode cX8_world 99 = .ok (.idiv, 1) := by decide +kernel
theorem dX8_world_100 : decode cX8_world 100 = .ok (.putfield 135, 3) := by decide +kernel
theorem dX8_world_103 : decode cX8_world 103 = .ok (.aload 8, 2) := by decide +kernel
theorem dX8_world_105 : decode cX8_world 105 = .ok (.iload 4, 2) := by decide +kernel
theorem dX8_world_107 : decode cX8_world 107 = .ok (.putfield 138, 3) := by decide +kernel
theorem dX8_world_110 : decode cX8_world 110 = .ok (.aload 8, 2) := by decide +kernel
theorem dX8_world_112 : decode cX8_world 112 = .ok (.iload 5, 2) := by decide +kernel
theorem dX8_world_114 : decode cX8_world 114 = .ok (.putfield 141, 3) := by decide +kernel
theorem dX8_world_117 : decode cX8_world 117 = .ok (.aload 8, 2) := by decide +kernel
theorem dX8_world_119 : decode cX8_world 119 = .ok (.iload 6, 2) := by decide +kernel
theorem dX8_world_121 : decode cX8_world 121 = .ok (.putfield 144, 3) := by decide +kernel
theorem dX8_world_124 : decode cX8_world 124 = .ok (.aload_n 0, 1) := by decide +kernel
theorem dX8_world_125 : decode cX8_world 125 = .ok (.getfield 31, 3) := by decide +kernel
theorem dX8_world_128 : decode cX8_world 128 = .ok (.aload_n 0, 1) := by decide +kernel
theorem dX8_world_129 : decode cX8_world 129 = .ok (.getfield 128, 3) := by decide +kernel
theorem dX8_world_132 : decode cX8_world 132 = .ok (.aload 8, 2) := by decide +kernel
theorem dX8_world_134 : decode cX8_world 134 = .ok (.aastore, 1) := by decide +kernel
theorem dX8_world_135 : decode cX8_world 135 = .ok (.aload_n 0, 1) := by decide +kernel
theorem dX8_world_136 : decode cX8_world 136 = .ok (.dup, 1) := by decide +kernel
theorem dX8_world_137 : decode cX8_world 137 = .ok (.getfield 128, 3) := by decide +kernel
theorem dX8_world_140 : decode cX8_world 140 = .ok (.iconst 1, 1) := by decide +kernel
theorem dX8_world_141 : decode cX8_world 141 = .ok (.iadd, 1) := by decide +kernel
theorem dX8_world_142 : decode cX8_world 142 = .ok (.putfield 128, 3) := by decide +kernel
theorem dX8_world_145 : decode cX8_world 145 = .ok (.aload_n 0, 1) := by decide +kernel
theorem dX8_world_146 : decode cX8_world 146 = .ok (.getfield 128, 3) := by decide +kernel
theorem dX8_world_149 : decode cX8_world 149 = .ok (.iconst 1, 1) := by decide +kernel
theorem dX8_world_150 : decode cX8_world 150 = .ok (.isub, 1) := by decide +kernel
theorem dX8_world_151 : decode cX8_world 151 = .ok (.ireturn, 1) := by decide +kernel
theorem dX8_nothing_0 : decode cX8_nothing 0 = .ok (.aload_n 0, 1) := by decide +kernel
theorem dX8_nothing_1 : decode cX8_nothing 1 = .ok (.iload_n 1, 1) := by decide +kernel
theorem dX8_nothing_2 : decode cX8_nothing 2 = .ok (.invokevirtual 147, 3) := by decide +kernel
theorem dX8_nothing_5 : decode cX8_nothing 5 = .ok (.astore_n 3, 1) := by decide +kernel
theorem dX8_nothing_6 : decode cX8_nothing 6 = .ok (.aload_n 3, 1) := by decide +kernel
theorem dX8_nothing_7 : decode cX8_nothing 7 = .ok (.ifnull 14, 3) := by decide +kernel
theorem dX8_nothing_10 : decode cX8_nothing 10 = .ok (.iload_n 2, 1) := by decide +kernel
theorem dX8_nothing_11 : decode cX8_nothing 11 = .ok (.ifCond .lt 10, 3) := by decide +kernel
theorem dX8_nothing_14 : decode cX8_nothing 14 = .ok (.iload_n 2, 1) := by decide +kernel
theorem dX8_nothing_15 : decode cX8_nothing 15 = .ok (.sipush 9999, 3) := by decide +kernel
theorem dX8_nothing_18 : decode cX8_nothing 18 = .ok (.if_icmp .le 5, 3) := by decide +kernel
theorem dX8_nothing_21 : decode cX8_nothing 21 = .ok (.iconst (-1), 1) := by decide +kernel
theorem dX8_nothing_22 : decode cX8_nothing 22 = .ok (.ireturn, 1) := by decide +kernel
theorem dX8_nothing_23 : decode cX8_nothing 23 = .ok (.aload_n 3, 1) := by decide +kernel
theorem dX8_nothing_24 : decode cX8_nothing 24 = .ok (.getfield 144, 3) := by decide +kernel
theorem dX8_nothing_27 : decode cX8_nothing 27 = .ok (.istore 4, 2) := by decide +kernel
theorem dX8_nothing_29 : decode cX8_nothing 29 = .ok (.aload_n 3, 1) := by decide +kernel
theorem dX8_nothing_30 : decode cX8_nothing 30 = .ok (.iload_n 2, 1) := by decide +kernel
theorem dX8_nothing_31 : decode cX8_nothing 31 = .ok (.putfield 144, 3) := by decide +kernel
theorem dX8_nothing_34 : decode cX8_nothing 34 = .ok (.aload_n 0, 1) := by decide +kernel
theorem dX8_nothing_35 : decode cX8_nothing 35 = .ok (.getfield 38, 3) := by decide +kernel
theorem dX8_nothing_38 : decode cX8_nothing 38 = .ok (.iload_n 1, 1) := by decide +kernel
theorem dX8_nothing_39 : decode cX8_nothing 39 = .ok (.iconst (-1), 1) := by decide +kernel
theorem dX8_nothing_40 : decode cX8_nothing 40 = .ok (.iload 4, 2) := by decide +kernel
theorem dX8_nothing_42 : decode cX8_nothing 42 = .ok (.iload_n 2, 1) := by decide +kernel
theorem dX8_nothing_43 : decode cX8_nothing 43 = .ok (.invokevirtual 99, 3) := by decide +kernel
theorem dX8_nothing_46 : decode cX8_nothing 46 = .ok (.iload 4, 2) := by decide +kernel
theorem dX8_nothing_48 : decode cX8_nothing 48 = .ok (.ireturn, 1) := by decide +kernel
theorem dX8_of_0 : decode cX8_of 0 = .ok (.aload_n 0, 1) := by decide +kernel
theorem dX8_of_1 : decode cX8_of 1 = .ok (.iload_n 1, 1) := by decide +kernel
theorem dX8_of_2 : decode cX8_of 2 = .ok (.invokevirtual 147, 3) := by decide +kernel
theorem dX8_of_5 : decode cX8_of 5 = .ok (.astore_n 3, 1) := by decide +kernel
theorem dX8_of_6 : decode cX8_of 6 = .ok (.aload_n 3, 1) := by decide +kernel
theorem dX8_of_7 : decode cX8_of 7 = .ok (.ifnull 7, 3) := by decide +kernel
theorem dX8_of_10 : decode cX8_of 10 = .ok (.iload_n 2, 1) := by decide +kernel
theorem dX8_of_11 : decode cX8_of 11 = .ok (.ifCond .ge 5, 3) := by decide +kernel
theorem dX8_of_14 : decode cX8_of 14 = .ok (.iconst (-1), 1) := by decide +kernel
theorem dX8_of_15 : decode cX8_of 15 = .ok (.ireturn, 1) := by decide +kernel
theorem dX8_of_16 : decode cX8_of 16 = .ok (.iload_n 2, 1) := by decide +kernel
theorem dX8_of_17 : decode cX8_of 17 = .ok (.bipush 100, 2) := by decide +kernel
theorem dX8_of_19 : decode cX8_of 19 = .ok (.if_icmp .lt 34, 3) := by decide +kernel
theorem dX8_of_22 : decode cX8_of 22 = .ok (.aload_n 0, 1) := by decide +kernel
theorem dX8_of_23 : decode cX8_of 23 = .ok (.getfield 10, 3) := by decide +kernel
theorem dX8_of_26 : decode cX8_of 26 = .ok (.iload_n 2, 1) := by decide +kernel
theorem dX8_of_27 : decode cX8_of 27 = .ok (.bipush 100, 2) := by decide +kernel
theorem dX8_of_29 : decode cX8_of 29 = .ok (.irem, 1) := by decide +kernel
theorem dX8_of_30 : decode cX8_of 30 = .ok (.invokevirtual 95, 3) := by decide +kernel
theorem dX8_of_33 : decode cX8_of 33 = .ok (.ifCond .eq 18, 3) := by decide +kernel
theorem dX8_of_36 : decode cX8_of 36 = .ok (.aload_n 3, 1) := by decide +kernel
theorem dX8_of_37 : decode cX8_of 37 = .ok (.iload_n 2, 1) := by decide +kernel
theorem dX8_of_38 : decode cX8_of 38 = .ok (.bipush 100, 2) := by decide +kernel
theorem dX8_of_40 : decode cX8_of 40 = .ok (.idiv, 1) := by decide +kernel
theorem dX8_of_41 : decode cX8_of 41 = .ok (.iload_n 2, 1) := by decide +kernel
theorem dX8_of_42 : decode cX8_of 42 = .ok (.bipush 100, 2) := by decide +kernel
theorem dX8_of_44 : decode cX8_of 44 = .ok (.irem, 1) := by decide +kernel
theorem dX8_of_45 : decode cX8_of 45 = .ok (.invokestatic 151, 3) := by decide +kernel
theorem dX8_of_48 : decode cX8_of 48 = .ok (.goto 4, 3) := by decide +kernel
theorem dX8_of_51 : decode cX8_of 51 = .ok (.iconst (-1), 1) := by decide +kernel
theorem dX8_of_52 : decode cX8_of 52 = .ok (.ireturn, 1) := by decide +kernel
theorem dX8_of_53 : decode cX8_of 53 = .ok (.iload_n 2, 1) := by decide +kernel
theorem dX8_of_54 : decode cX8_of 54 = .ok (.tableswitch 59 0 4 #[34, 39, 44, 49, 54], 34) := by decide +kernel
theorem dX8_of_88 : decode cX8_of 88 = .ok (.aload_n 3, 1) := by decide +kernel
theorem dX8_of_89 : decode cX8_of 89 = .ok (.getfield 155, 3) := by decide +kernel
theorem dX8_of_92 : decode cX8_of 92 = .ok (.ireturn, 1) := by decide +kernel
theorem dX8_of_93 : decode cX8_of 93 = .ok (.aload_n 3, 1) := by decide +kernel
theorem dX8_of_94 : decode cX8_of 94 = .ok (.getfield 158, 3) := by decide +kernel
theorem dX8_of_97 : decode cX8_of 97 = .ok (.ireturn, 1) := by decide +kernel
theorem dX8_of_98 : decode cX8_of 98 = .ok (.aload_n 3, 1) := by decide +kernel
theorem dX8_of_99 : decode cX8_of 99 = .ok (.getfield 135, 3) := by decide +kernel
theorem dX8_of_102 : decode cX8_of 102 = .ok (.ireturn, 1) := by decide +kernel
theorem dX8_of_103 : decode cX8_of 103 = .ok (.aload_n 3, 1) := by decide +kernel
theorem dX8_of_104 : decode cX8_of 104 = .ok (.getfield 138, 3) := by decide +kernel
theorem dX8_of_107 : decode cX8_of 107 = .ok (.ireturn, 1) := by decide +kernel
theorem dX8_of_108 : decode cX8_of 108 = .ok (.aload_n 3, 1) := by decide +kernel
theorem dX8_of_109 : decode cX8_of 109 = .ok (.invokevirtual 161, 3) := by decide +kernel
theorem dX8_of_112 : decode cX8_of 112 = .ok (.ireturn, 1) := by decide +kernel
theorem dX8_of_113 : decode cX8_of 113 = .ok (.iconst (-1), 1) := by decide +kernel
theorem dX8_of_114 : decode cX8_of 114 = .ok (.ireturn, 1) := by decide +kernel
theorem dX8_ofSong_0 : decode cX8_ofSong 0 = .ok (.aload_n 0, 1) := by decide +kernel
theorem dX8_ofSong_1 : decode cX8_ofSong 1 = .ok (.invokevirtual 164, 3) := by decide +kernel
theorem dX8_ofSong_4 : decode cX8_ofSong 4 = .ok (.iload_n 1, 1) := by decide +kernel
theorem dX8_ofSong_5 : decode cX8_ofSong 5 = .ok (.tableswitch 57 1 4 #[31, 38, 45, 51], 31) := by decide +kernel
theorem dX8_ofSong_36 : decode cX8_ofSong 36 = .ok (.aload_n 0, 1) := by decide +kernel
theorem dX8_ofSong_37 : decode cX8_ofSong 37 = .ok (.getfield 167, 3) := by decide +kernel
theorem dX8_ofSong_40 : decode cX8_ofSong 40 = .ok (.iload_n 2, 1) := by decide +kernel
theorem dX8_ofSong_41 : decode cX8_ofSong 41 = .ok (.iaload, 1) := by decide +kernel
theorem dX8_ofSong_42 : decode cX8_ofSong 42 = .ok (.ireturn, 1) := by decide +kernel
theorem dX8_ofSong_43 : decode cX8_ofSong 43 = .ok (.aload_n 0, 1) := by decide +kernel
theorem dX8_ofSong_44 : decode cX8_ofSong 44 = .ok (.getfield 170, 3) := by decide +kernel
theorem dX8_ofSong_47 : decode cX8_ofSong 47 = .ok (.iload_n 2, 1) := by decide +kernel
theorem dX8_ofSong_48 : decode cX8_ofSong 48 = .ok (.iaload, 1) := by decide +kernel
theorem dX8_ofSong_49 : decode cX8_ofSong 49 = .ok (.ireturn, 1) := by decide +kernel
theorem dX8_ofSong_50 : decode cX8_ofSong 50 = .ok (.aload_n 0, 1) := by decide +kernel
theorem dX8_ofSong_51 : decode cX8_ofSong 51 = .ok (.iload_n 2, 1) := by decide +kernel
theorem dX8_ofSong_52 : decode cX8_ofSong 52 = .ok (.invokevirtual 173, 3) := by decide +kernel
theorem dX8_ofSong_55 : decode cX8_ofSong 55 = .ok (.ireturn, 1) := by decide +kernel
theorem dX8_ofSong_56 : decode cX8_ofSong 56 = .ok (.aload_n 0, 1) := by decide +kernel
theorem dX8_ofSong_57 : decode cX8_ofSong 57 = .ok (.iload_n 2, 1) := by decide +kernel
theorem dX8_ofSong_58 : decode cX8_ofSong 58 = .ok (.invokevirtual 177, 3) := by decide +kernel
theorem dX8_ofSong_61 : decode cX8_ofSong 61 = .ok (.ireturn, 1) := by decide +kernel
theorem dX8_ofSong_62 : decode cX8_ofSong 62 = .ok (.iconst (-1), 1) := by decide +kernel
theorem dX8_ofSong_63 : decode cX8_ofSong 63 = .ok (.ireturn, 1) := by decide +kernel
theorem dX8_weight_0 : decode cX8_weight 0 = .ok (.aload_n 0, 1) := by decide +kernel
theorem dX8_weight_1 : decode cX8_weight 1 = .ok (.iload_n 1, 1) := by decide +kernel
theorem dX8_weight_2 : decode cX8_weight 2 = .ok (.invokevirtual 147, 3) := by decide +kernel
theorem dX8_weight_5 : decode cX8_weight 5 = .ok (.astore_n 3, 1) := by decide +kernel
theorem dX8_weight_6 : decode cX8_weight 6 = .ok (.aload_n 3, 1) := by decide +kernel
theorem dX8_weight_7 : decode cX8_weight 7 = .ok (.ifnull 14, 3) := by decide +kernel
theorem dX8_weight_10 : decode cX8_weight 10 = .ok (.aload_n 0, 1) := by decide +kernel
theorem dX8_weight_11 : decode cX8_weight 11 = .ok (.getfield 10, 3) := by decide +kernel
theorem dX8_weight_14 : decode cX8_weight 14 = .ok (.iload_n 2, 1) := by decide +kernel
theorem dX8_weight_15 : decode cX8_weight 15 = .ok (.invokevirtual 95, 3) := by decide +kernel
theorem dX8_weight_18 : decode cX8_weight 18 = .ok (.ifCond .ne 5, 3) := by decide +kernel
theorem dX8_weight_21 : decode cX8_weight 21 = .ok (.iconst (-1), 1) := by decide +kernel
theorem dX8_weight_22 : decode cX8_weight 22 = .ok (.ireturn, 1) := by decide +kernel
theorem dX8_weight_23 : decode cX8_weight 23 = .ok (.aload_n 3, 1) := by decide +kernel
theorem dX8_weight_24 : decode cX8_weight 24 = .ok (.invokevirtual 164, 3) := by decide +kernel
theorem dX8_weight_27 : decode cX8_weight 27 = .ok (.aload_n 3, 1) := by decide +kernel
theorem dX8_weight_28 : decode cX8_weight 28 = .ok (.iload_n 2, 1) := by decide +kernel
theorem dX8_weight_29 : decode cX8_weight 29 = .ok (.invokevirtual 180, 3) := by decide +kernel
theorem dX8_weight_32 : decode cX8_weight 32 = .ok (.ireturn, 1) := by decide +kernel
theorem dX8_come_0 : decode cX8_come 0 = .ok (.aload_n 0, 1) := by decide +kernel
theorem dX8_come_1 : decode cX8_come 1 = .ok (.iload_n 1, 1) := by decide +kernel
theorem dX8_come_2 : decode cX8_come 2 = .ok (.invokevirtual 147, 3) := by decide +kernel
theorem dX8_come_5 : decode cX8_come 5 = .ok (.astore_n 3, 1) := by decide +kernel
theorem dX8_come_6 : decode cX8_come 6 = .ok (.aload_n 3, 1) := by decide +kernel
theorem dX8_come_7 : decode cX8_come 7 = .ok (.ifnull 15, 3) := by decide +kernel
theorem dX8_come_10 : decode cX8_come 10 = .ok (.iload_n 2, 1) := by decide +kernel
theorem dX8_come_11 : decode cX8_come 11 = .ok (.iconst 1, 1) := by decide +kernel
theorem dX8_come_12 : decode cX8_come 12 = .ok (.if_icmp .lt 10, 3) := by decide +kernel
theorem dX8_come_15 : decode cX8_come 15 = .ok (.iload_n 2, 1) := by decide +kernel
theorem dX8_come_16 : decode cX8_come 16 = .ok (.sipush 200, 3) := by decide +kernel
theorem dX8_come_19 : decode cX8_come 19 = .ok (.if_icmp .le 5, 3) := by decide +kernel
theorem dX8_come_22 : decode cX8_come 22 = .ok (.iconst (-1), 1) := by decide +kernel
theorem dX8_come_23 : decode cX8_come 23 = .ok (.ireturn, 1) := by decide +kernel
theorem dX8_come_24 : decode cX8_come 24 = .ok (.aload_n 3, 1) := by decide +kernel
theorem dX8_come_25 : decode cX8_come 25 = .ok (.iload_n 2, 1) := by decide +kernel
theorem dX8_come_26 : decode cX8_come 26 = .ok (.invokevirtual 183, 3) := by decide +kernel
theorem dX8_come_29 : decode cX8_come 29 = .ok (.ireturn, 1) := by decide +kernel
theorem dX8_keepings_0 : decode cX8_keepings 0 = .ok (.aload_n 0, 1) := by decide +kernel
theorem dX8_keepings_1 : decode cX8_keepings 1 = .ok (.iload_n 1, 1) := by decide +kernel
theorem dX8_keepings_2 : decode cX8_keepings 2 = .ok (.invokevirtual 147, 3) := by decide +kernel
theorem dX8_keepings_5 : decode cX8_keepings 5 = .ok (.astore 5, 2) := by decide +kernel
theorem dX8_keepings_7 : decode cX8_keepings 7 = .ok (.aload_n 0, 1) := by decide +kernel
theorem dX8_keepings_8 : decode cX8_keepings 8 = .ok (.iload_n 2, 1) := by decide +kernel
theorem dX8_keepings_9 : decode cX8_keepings 9 = .ok (.invokevirtual 186, 3) := by decide +kernel
theorem dX8_keepings_12 : decode cX8_keepings 12 = .ok (.astore 6, 2) := by decide +kernel
theorem dX8_keepings_14 : decode cX8_keepings 14 = .ok (.aload 5, 2) := by decide +kernel
theorem dX8_keepings_16 : decode cX8_keepings 16 = .ok (.ifnull 21, 3) := by decide +kernel
theorem dX8_keepings_19 : decode cX8_keepings 19 = .ok (.aload 6, 2) := by decide +kernel
theorem dX8_keepings_21 : decode cX8_keepings 21 = .ok (.ifnull 16, 3) := by decide +kernel
theorem dX8_keepings_24 : decode cX8_keepings 24 = .ok (.iload 4, 2) := by decide +kernel
theorem dX8_keepings_26 : decode cX8_keepings 26 = .ok (.iconst 1, 1) := by decide +kernel
theorem dX8_keepings_27 : decode cX8_keepings 27 = .ok (.if_icmp .lt 10, 3) := by decide +kernel
theorem dX8_keepings_30 : decode cX8_keepings 30 = .ok (.iload 4, 2) := by decide +kernel
theorem dX8_keepings_32 : decode cX8_keepings 32 = .ok (.bipush 60, 2) := by decide +kernel
theorem dX8_keepings_34 : decode cX8_keepings 34 = .ok (.if_icmp .le 5, 3) := by decide +kernel
theorem dX8_keepings_37 : decode cX8_keepings 37 = .ok (.iconst (-1), 1) := by decide +kernel
theorem dX8_keepings_38 : decode cX8_keepings 38 = .ok (.ireturn, 1) := by decide +kernel
theorem dX8_keepings_39 : decode cX8_keepings 39 = .ok (.aload 6, 2) := by decide +kernel
theorem dX8_keepings_41 : decode cX8_keepings 41 = .ok (.getfield 190, 3) := by decide +kernel
theorem dX8_keepings_44 : decode cX8_keepings 44 = .ok (.ifCond .ne 5, 3) := by decide +kernel
theorem dX8_keepings_47 : decode cX8_keepings 47 = .ok (.iconst 0, 1) := by decide +kernel
theorem dX8_keepings_48 : decode cX8_keepings 48 = .ok (.ireturn, 1) := by decide +kernel
theorem dX8_keepings_49 : decode cX8_keepings 49 = .ok (.aload 6, 2) := by decide +kernel
theorem dX8_keepings_51 : decode cX8_keepings 51 = .ok (.getfield 190, 3) := by decide +kernel
theorem dX8_keepings_54 : decode cX8_keepings 54 = .ok (.iconst 2, 1) := by decide +kernel
theorem dX8_keepings_55 : decode cX8_keepings 55 = .ok (.if_icmp .ne 11, 3) := by decide +kernel
theorem dX8_keepings_58 : decode cX8_keepings 58 = .ok (.aload 6, 2) := by decide +kernel
theorem dX8_keepings_60 : decode cX8_keepings 60 = .ok (.getfield 193, 3) := by decide +kernel
theorem dX8_keepings_63 : decode cX8_keepings 63 = .ok (.ifCond .eq 6, 3) := by decide +kernel
theorem dX8_keepings_66 : decode cX8_keepings 66 = .ok (.bipush (-12), 2) := by decide +kernel
theorem dX8_keepings_68 : decode cX8_keepings 68 = .ok (.ireturn, 1) := by decide +kernel
theorem dX8_keepings_69 : decode cX8_keepings 69 = .ok (.iconst 0, 1) := by decide +kernel
theorem dX8_keepings_70 : decode cX8_keepings 70 = .ok (.istore 7, 2) := by decide +kernel
theorem dX8_keepings_72 : decode cX8_keepings 72 = .ok (.iload_n 3, 1) := by decide +kernel
theorem dX8_keepings_73 : decode cX8_keepings 73 = .ok (.istore 8, 2) := by decide +kernel
theorem dX8_keepings_75 : decode cX8_keepings 75 = .ok (.iload 7, 2) := by decide +kernel
theorem dX8_keepings_77 : decode cX8_keepings 77 = .ok (.iload 4, 2) := by decide +kernel
theorem dX8_keepings_79 : decode cX8_keepings 79 = .ok (.if_icmp .ge 61, 3) := by decide +kernel
theorem dX8_keepings_82 : decode cX8_keepings 82 = .ok (.aload 6, 2) := by decide +kernel
theorem dX8_keepings_84 : decode cX8_keepings 84 = .ok (.iload 8, 2) := by decide +kernel
theorem dX8_keepings_86 : decode cX8_keepings 86 = .ok (.invokevirtual 196, 3) := by decide +kernel
theorem dX8_keepings_89 : decode cX8_keepings 89 = .ok (.ifCond .eq 51, 3) := by decide +kernel
theorem dX8_keepings_92 : decode cX8_keepings 92 = .ok (.aload 6, 2) := by decide +kernel
theorem dX8_keepings_94 : decode cX8_keepings 94 = .ok (.getfield 197, 3) := by decide +kernel
theorem dX8_keepings_97 : decode cX8_keepings 97 = .ok (.iload 8, 2) := by decide +kernel
theorem dX8_keepings_99 : decode cX8_keepings 99 = .ok (.laload, 1) := by decide +kernel
theorem dX8_keepings_100 : decode cX8_keepings 100 = .ok (.l2i, 1) := by decide +kernel
theorem dX8_keepings_101 : decode cX8_keepings 101 = .ok (.istore 9, 2) := by decide +kernel
theorem dX8_keepings_103 : decode cX8_keepings 103 = .ok (.iload 9, 2) := by decide +kernel
theorem dX8_keepings_105 : decode cX8_keepings 105 = .ok (.iconst (-1), 1) := by decide +kernel
theorem dX8_keepings_106 : decode cX8_keepings 106 = .ok (.if_icmp .eq 18, 3) := by decide +kernel
theorem dX8_keepings_109 : decode cX8_keepings 109 = .ok (.aload_n 0, 1) := by decide +kernel
theorem dX8_keepings_110 : decode cX8_keepings 110 = .ok (.getfield 10, 3) := by decide +kernel
theorem dX8_keepings_113 : decode cX8_keepings 113 = .ok (.iload 9, 2) := by decide +kernel
theorem dX8_keepings_115 : decode cX8_keepings 115 = .ok (.invokevirtual 95, 3) := by decide +kernel
theorem dX8_keepings_118 : decode cX8_keepings 118 = .ok (.ifCond .ne 6, 3) := by decide +kernel
theorem dX8_keepings_121 : decode cX8_keepings 121 = .ok (.iload 7, 2) := by decide +kernel
theorem dX8_keepings_123 : decode cX8_keepings 123 = .ok (.ireturn, 1) := by decide +kernel
theorem dX8_keepings_124 : decode cX8_keepings 124 = .ok (.aload 5, 2) := by decide +kernel
theorem dX8_keepings_126 : decode cX8_keepings 126 = .ok (.iload 9, 2) := by decide +kernel
theorem dX8_keepings_128 : decode cX8_keepings 128 = .ok (.invokevirtual 201, 3) := by decide +kernel
theorem dX8_keepings_131 : decode cX8_keepings 131 = .ok (.iinc 7 1, 3) := by decide +kernel
theorem dX8_keepings_134 : decode cX8_keepings 134 = .ok (.iinc 8 1, 3) := by decide +kernel
theorem dX8_keepings_137 : decode cX8_keepings 137 = .ok (.goto (-62), 3) := by decide +kernel
theorem dX8_keepings_140 : decode cX8_keepings 140 = .ok (.iload 7, 2) := by decide +kernel
theorem dX8_keepings_142 : decode cX8_keepings 142 = .ok (.ireturn, 1) := by decide +kernel
theorem dX8_led_0 : decode cX8_led 0 = .ok (.aload_n 0, 1) := by decide +kernel
theorem dX8_led_1 : decode cX8_led 1 = .ok (.iload_n 1, 1) := by decide +kernel
theorem dX8_led_2 : decode cX8_led 2 = .ok (.invokevirtual 147, 3) := by decide +kernel
theorem dX8_led_5 : decode cX8_led 5 = .ok (.astore_n 3, 1) := by decide +kernel
theorem dX8_led_6 : decode cX8_led 6 = .ok (.aload_n 3, 1) := by decide +kernel
theorem dX8_led_7 : decode cX8_led 7 = .ok (.ifnull 15, 3) := by decide +kernel
theorem dX8_led_10 : decode cX8_led 10 = .ok (.iload_n 2, 1) := by decide +kernel
theorem dX8_led_11 : decode cX8_led 11 = .ok (.ifCond .lt 11, 3) := by decide +kernel
theorem dX8_led_14 : decode cX8_led 14 = .ok (.iload_n 2, 1) := by decide +kernel
theorem dX8_led_15 : decode cX8_led 15 = .ok (.aload_n 3, 1) := by decide +kernel
theorem dX8_led_16 : decode cX8_led 16 = .ok (.invokevirtual 204, 3) := by decide +kernel
theorem dX8_led_19 : decode cX8_led 19 = .ok (.if_icmp .lt 5, 3) := by decide +kernel
theorem dX8_led_22 : decode cX8_led 22 = .ok (.iconst (-1), 1) := by decide +kernel
theorem dX8_led_23 : decode cX8_led 23 = .ok (.ireturn, 1) := by decide +kernel
theorem dX8_led_24 : decode cX8_led 24 = .ok (.aload_n 3, 1) := by decide +kernel
theorem dX8_led_25 : decode cX8_led 25 = .ok (.getfield 207, 3) := by decide +kernel
theorem dX8_led_28 : decode cX8_led 28 = .ok (.iload_n 2, 1) := by decide +kernel
theorem dX8_led_29 : decode cX8_led 29 = .ok (.baload, 1) := by decide +kernel
theorem dX8_led_30 : decode cX8_led 30 = .ok (.ireturn, 1) := by decide +kernel
theorem dX8_lawOf_0 : decode cX8_lawOf 0 = .ok (.iload_n 1, 1) := by decide +kernel
theorem dX8_lawOf_1 : decode cX8_lawOf 1 = .ok (.ifCond .lt 26, 3) := by decide +kernel
theorem dX8_lawOf_4 : decode cX8_lawOf 4 = .ok (.iload_n 1, 1) := by decide +kernel
theorem dX8_lawOf_5 : decode cX8_lawOf 5 = .ok (.aload_n 0, 1) := by decide +kernel
theorem dX8_lawOf_6 : decode cX8_lawOf 6 = .ok (.getfield 110, 3) := by decide +kernel
theorem dX8_lawOf_9 : decode cX8_lawOf 9 = .ok (.if_icmp .ge 18, 3) := by decide +kernel
theorem dX8_lawOf_12 : decode cX8_lawOf 12 = .ok (.iload_n 1, 1) := by decide +kernel
theorem dX8_lawOf_13 : decode cX8_lawOf 13 = .ok (.bipush 6, 2) := by decide +kernel
theorem dX8_lawOf_15 : decode cX8_lawOf 15 = .ok (.if_icmp .ge 12, 3) := by decide +kernel
theorem dX8_lawOf_18 : decode cX8_lawOf 18 = .ok (.aload_n 0, 1) := by decide +kernel
theorem dX8_lawOf_19 : decode cX8_lawOf 19 = .ok (.getfield 25, 3) := by decide +kernel
theorem dX8_lawOf_22 : decode cX8_lawOf 22 = .ok (.iload_n 1, 1) := by decide +kernel
theorem dX8_lawOf_23 : decode cX8_lawOf 23 = .ok (.aaload, 1) := by decide +kernel
theorem dX8_lawOf_24 : decode cX8_lawOf 24 = .ok (.goto 4, 3) := by decide +kernel
theorem dX8_lawOf_27 : decode cX8_lawOf 27 = .ok (.aconst_null, 1) := by decide +kernel
theorem dX8_lawOf_28 : decode cX8_lawOf 28 = .ok (.areturn, 1) := by decide +kernel
theorem dX8_worldOf_0 : decode cX8_worldOf 0 = .ok (.iload_n 1, 1) := by decide +kernel
theorem dX8_worldOf_1 : decode cX8_worldOf 1 = .ok (.ifCond .lt 26, 3) := by decide +kernel
theorem dX8_worldOf_4 : decode cX8_worldOf 4 = .ok (.iload_n 1, 1) := by decide +kernel
theorem dX8_worldOf_5 : decode cX8_worldOf 5 = .ok (.aload_n 0, 1) := by decide +kernel
theorem dX8_worldOf_6 : decode cX8_worldOf 6 = .ok (.getfield 128, 3) := by decide +kernel
theorem dX8_worldOf_9 : decode cX8_worldOf 9 = .ok (.if_icmp .ge 18, 3) := by decide +kernel
theorem dX8_worldOf_12 : decode cX8_worldOf 12 = .ok (.iload_n 1, 1) := by decide +kernel
theorem dX8_worldOf_13 : decode cX8_worldOf 13 = .ok (.bipush 9, 2) := by decide +kernel
theorem dX8_worldOf_15 : decode cX8_worldOf 15 = .ok (.if_icmp .ge 12, 3) := by decide +kernel
theorem dX8_worldOf_18 : decode cX8_worldOf 18 = .ok (.aload_n 0, 1) := by decide +kernel
theorem dX8_worldOf_19 : decode cX8_worldOf 19 = .ok (.getfield 31, 3) := by decide +kernel
theorem dX8_worldOf_22 : decode cX8_worldOf 22 = .ok (.iload_n 1, 1) := by decide +kernel
theorem dX8_worldOf_23 : decode cX8_worldOf 23 = .ok (.aaload, 1) := by decide +kernel
theorem dX8_worldOf_24 : decode cX8_worldOf 24 = .ok (.goto 4, 3) := by decide +kernel
theorem dX8_worldOf_27 : decode cX8_worldOf 27 = .ok (.aconst_null, 1) := by decide +kernel
theorem dX8_worldOf_28 : decode cX8_worldOf 28 = .ok (.areturn, 1) := by decide +kernel
theorem dX8_shelfOf_0 : decode cX8_shelfOf 0 = .ok (.iload_n 1, 1) := by decide +kernel
theorem dX8_shelfOf_1 : decode cX8_shelfOf 1 = .ok (.ifCond .lt 18, 3) := by decide +kernel
theorem dX8_shelfOf_4 : decode cX8_shelfOf 4 = .ok (.iload_n 1, 1) := by decide +kernel
theorem dX8_shelfOf_5 : decode cX8_shelfOf 5 = .ok (.bipush 6, 2) := by decide +kernel
theorem dX8_shelfOf_7 : decode cX8_shelfOf 7 = .ok (.if_icmp .ge 12, 3) := by decide +kernel
theorem dX8_shelfOf_10 : decode cX8_shelfOf 10 = .ok (.aload_n 0, 1) := by decide +kernel
theorem dX8_shelfOf_11 : decode cX8_shelfOf 11 = .ok (.getfield 51, 3) := by decide +kernel
theorem dX8_shelfOf_14 : decode cX8_shelfOf 14 = .ok (.iload_n 1, 1) := by decide +kernel
theorem dX8_shelfOf_15 : decode cX8_shelfOf 15 = .ok (.aaload, 1) := by decide +kernel
theorem dX8_shelfOf_16 : decode cX8_shelfOf 16 = .ok (.goto 4, 3) := by decide +kernel
theorem dX8_shelfOf_19 : decode cX8_shelfOf 19 = .ok (.aconst_null, 1) := by decide +kernel
theorem dX8_shelfOf_20 : decode cX8_shelfOf 20 = .ok (.areturn, 1) := by decide +kernel
theorem dX8_unequal_0 : decode cX8_unequal 0 = .ok (.aload_n 0, 1) := by decide +kernel
theorem dX8_unequal_1 : decode cX8_unequal 1 = .ok (.iload_n 1, 1) := by decide +kernel
theorem dX8_unequal_2 : decode cX8_unequal 2 = .ok (.invokevirtual 147, 3) := by decide +kernel
theorem dX8_unequal_5 : decode cX8_unequal 5 = .ok (.astore_n 2, 1) := by decide +kernel
theorem dX8_unequal_6 : decode cX8_unequal 6 = .ok (.aload_n 2, 1) := by decide +kernel
theorem dX8_unequal_7 : decode cX8_unequal 7 = .ok (.ifnonnull 5, 3) := by decide +kernel
theorem dX8_unequal_10 : decode cX8_unequal 10 = .ok (.iconst (-1), 1) := by decide +kernel
theorem dX8_unequal_11 : decode cX8_unequal 11 = .ok (.ireturn, 1) := by decide +kernel
theorem dX8_unequal_12 : decode cX8_unequal 12 = .ok (.aload_n 0, 1) := by decide +kernel
theorem dX8_unequal_13 : decode cX8_unequal 13 = .ok (.getfield 10, 3) := by decide +kernel
theorem dX8_unequal_16 : decode cX8_unequal 16 = .ok (.getfield 88, 3) := by decide +kernel
theorem dX8_unequal_19 : decode cX8_unequal 19 = .ok (.ifCond .ne 5, 3) := by decide +kernel
theorem dX8_unequal_22 : decode cX8_unequal 22 = .ok (.iconst 0, 1) := by decide +kernel
theorem dX8_unequal_23 : decode cX8_unequal 23 = .ok (.ireturn, 1) := by decide +kernel
theorem dX8_unequal_24 : decode cX8_unequal 24 = .ok (.iconst 0, 1) := by decide +kernel
theorem dX8_unequal_25 : decode cX8_unequal 25 = .ok (.istore_n 3, 1) := by decide +kernel
theorem dX8_unequal_26 : decode cX8_unequal 26 = .ok (.iconst 0, 1) := by decide +kernel
theorem dX8_unequal_27 : decode cX8_unequal 27 = .ok (.istore 4, 2) := by decide +kernel
theorem dX8_unequal_29 : decode cX8_unequal 29 = .ok (.iload 4, 2) := by decide +kernel
theorem dX8_unequal_31 : decode cX8_unequal 31 = .ok (.aload_n 0, 1) := by decide +kernel
theorem dX8_unequal_32 : decode cX8_unequal 32 = .ok (.getfield 10, 3) := by decide +kernel
theorem dX8_unequal_35 : decode cX8_unequal 35 = .ok (.getfield 88, 3) := by decide +kernel
theorem dX8_unequal_38 : decode cX8_unequal 38 = .ok (.if_icmp .ge 52, 3) := by decide +kernel
theorem dX8_unequal_41 : decode cX8_unequal 41 = .ok (.iload 4, 2) := by decide +kernel
theorem dX8_unequal_43 : decode cX8_unequal 43 = .ok (.iconst 1, 1) := by decide +kernel
theorem dX8_unequal_44 : decode cX8_unequal 44 = .ok (.iadd, 1) := by decide +kernel
theorem dX8_unequal_45 : decode cX8_unequal 45 = .ok (.istore 5, 2) := by decide +kernel
theorem dX8_unequal_47 : decode cX8_unequal 47 = .ok (.iload 5, 2) := by decide +kernel
theorem dX8_unequal_49 : decode cX8_unequal 49 = .ok (.aload_n 0, 1) := by decide +kernel
theorem dX8_unequal_50 : decode cX8_unequal 50 = .ok (.getfield 10, 3) := by decide +kernel
theorem dX8_unequal_53 : decode cX8_unequal 53 = .ok (.getfield 88, 3) := by decide +kernel
theorem dX8_unequal_56 : decode cX8_unequal 56 = .ok (.if_icmp .ge 28, 3) := by decide +kernel
theorem dX8_unequal_59 : decode cX8_unequal 59 = .ok (.iload_n 3, 1) := by decide +kernel
theorem dX8_unequal_60 : decode cX8_unequal 60 = .ok (.aload_n 2, 1) := by decide +kernel
theorem dX8_unequal_61 : decode cX8_unequal 61 = .ok (.iload 4, 2) := by decide +kernel
theorem dX8_unequal_63 : decode cX8_unequal 63 = .ok (.invokevirtual 177, 3) := by decide +kernel
theorem dX8_unequal_66 : decode cX8_unequal 66 = .ok (.aload_n 2, 1) := by decide +kernel
theorem dX8_unequal_67 : decode cX8_unequal 67 = .ok (.iload 5, 2) := by decide +kernel
theorem dX8_unequal_69 : decode cX8_unequal 69 = .ok (.invokevirtual 177, 3) := by decide +kernel
theorem dX8_unequal_72 : decode cX8_unequal 72 = .ok (.isub, 1) := by decide +kernel
theorem dX8_unequal_73 : decode cX8_unequal 73 = .ok (.invokestatic 211, 3) := by decide +kernel
theorem dX8_unequal_76 : decode cX8_unequal 76 = .ok (.iadd, 1) := by decide +kernel
theorem dX8_unequal_77 : decode cX8_unequal 77 = .ok (.istore_n 3, 1) := by decide +kernel
theorem dX8_unequal_78 : decode cX8_unequal 78 = .ok (.iinc 5 1, 3) := by decide +kernel
theorem dX8_unequal_81 : decode cX8_unequal 81 = .ok (.goto (-34), 3) := by decide +kernel
theorem dX8_unequal_84 : decode cX8_unequal 84 = .ok (.iinc 4 1, 3) := by decide +kernel
theorem dX8_unequal_87 : decode cX8_unequal 87 = .ok (.goto (-58), 3) := by decide +kernel
theorem dX8_unequal_90 : decode cX8_unequal 90 = .ok (.iload_n 3, 1) := by decide +kernel
theorem dX8_unequal_91 : decode cX8_unequal 91 = .ok (.aload_n 0, 1) := by decide +kernel
theorem dX8_unequal_92 : decode cX8_unequal 92 = .ok (.getfield 10, 3) := by decide +kernel
theorem dX8_unequal_95 : decode cX8_unequal 95 = .ok (.getfield 88, 3) := by decide +kernel
theorem dX8_unequal_98 : decode cX8_unequal 98 = .ok (.idiv, 1) := by decide +kernel
theorem dX8_unequal_99 : decode cX8_unequal 99 = .ok (.ireturn, 1) := by decide +kernel
theorem dX8_unlike_0 : decode cX8_unlike 0 = .ok (.aload_n 0, 1) := by decide +kernel
theorem dX8_unlike_1 : decode cX8_unlike 1 = .ok (.iload_n 1, 1) := by decide +kernel
theorem dX8_unlike_2 : decode cX8_unlike 2 = .ok (.bipush 10, 2) := by decide +kernel
theorem dX8_unlike_4 : decode cX8_unlike 4 = .ok (.idiv, 1) := by decide +kernel
theorem dX8_unlike_5 : decode cX8_unlike 5 = .ok (.invokevirtual 147, 3) := by decide +kernel
theorem dX8_unlike_8 : decode cX8_unlike 8 = .ok (.astore_n 2, 1) := by decide +kernel
theorem dX8_unlike_9 : decode cX8_unlike 9 = .ok (.aload_n 0, 1) := by decide +kernel
theorem dX8_unlike_10 : decode cX8_unlike 10 = .ok (.iload_n 1, 1) := by decide +kernel
theorem dX8_unlike_11 : decode cX8_unlike 11 = .ok (.bipush 10, 2) := by decide +kernel
theorem dX8_unlike_13 : decode cX8_unlike 13 = .ok (.irem, 1) := by decide +kernel
theorem dX8_unlike_14 : decode cX8_unlike 14 = .ok (.invokevirtual 147, 3) := by decide +kernel
theorem dX8_unlike_17 : decode cX8_unlike 17 = .ok (.astore_n 3, 1) := by decide +kernel
theorem dX8_unlike_18 : decode cX8_unlike 18 = .ok (.aload_n 2, 1) := by decide +kernel
theorem dX8_unlike_19 : decode cX8_unlike 19 = .ok (.ifnull 12, 3) := by decide +kernel
theorem dX8_unlike_22 : decode cX8_unlike 22 = .ok (.aload_n 3, 1) := by decide +kernel
theorem dX8_unlike_23 : decode cX8_unlike 23 = .ok (.ifnull 8, 3) := by decide +kernel
theorem dX8_unlike_26 : decode cX8_unlike 26 = .ok (.aload_n 2, 1) := by decide +kernel
theorem dX8_unlike_27 : decode cX8_unlike 27 = .ok (.aload_n 3, 1) := by decide +kernel
theorem dX8_unlike_28 : decode cX8_unlike 28 = .ok (.if_acmp .ne 5, 3) := by decide +kernel
theorem dX8_unlike_31 : decode cX8_unlike 31 = .ok (.iconst (-1), 1) := by decide +kernel
theorem dX8_unlike_32 : decode cX8_unlike 32 = .ok (.ireturn, 1) := by decide +kernel
theorem dX8_unlike_33 : decode cX8_unlike 33 = .ok (.aload_n 0, 1) := by decide +kernel
theorem dX8_unlike_34 : decode cX8_unlike 34 = .ok (.aload_n 2, 1) := by decide +kernel
theorem dX8_unlike_35 : decode cX8_unlike 35 = .ok (.aload_n 3, 1) := by decide +kernel
theorem dX8_unlike_36 : decode cX8_unlike 36 = .ok (.invokevirtual 216, 3) := by decide +kernel
theorem dX8_unlike_39 : decode cX8_unlike 39 = .ok (.ireturn, 1) := by decide +kernel
theorem dX8_apart_0 : decode cX8_apart 0 = .ok (.iconst 0, 1) := by decide +kernel
theorem dX8_apart_1 : decode cX8_apart 1 = .ok (.istore_n 3, 1) := by decide +kernel
theorem dX8_apart_2 : decode cX8_apart 2 = .ok (.iconst 0, 1) := by decide +kernel
theorem dX8_apart_3 : decode cX8_apart 3 = .ok (.istore 4, 2) := by decide +kernel
theorem dX8_apart_5 : decode cX8_apart 5 = .ok (.iload 4, 2) := by decide +kernel
theorem dX8_apart_7 : decode cX8_apart 7 = .ok (.aload_n 0, 1) := by decide +kernel
theorem dX8_apart_8 : decode cX8_apart 8 = .ok (.getfield 10, 3) := by decide +kernel
theorem dX8_apart_11 : decode cX8_apart 11 = .ok (.getfield 88, 3) := by decide +kernel
theorem dX8_apart_14 : decode cX8_apart 14 = .ok (.if_icmp .ge 28, 3) := by decide +kernel
theorem dX8_apart_17 : decode cX8_apart 17 = .ok (.iload_n 3, 1) := by decide +kernel
theorem dX8_apart_18 : decode cX8_apart 18 = .ok (.aload_n 1, 1) := by decide +kernel
theorem dX8_apart_19 : decode cX8_apart 19 = .ok (.iload 4, 2) := by decide +kernel
theorem dX8_apart_21 : decode cX8_apart 21 = .ok (.invokevirtual 177, 3) := by decide +kernel
theorem dX8_apart_24 : decode cX8_apart 24 = .ok (.aload_n 2, 1) := by decide +kernel
theorem dX8_apart_25 : decode cX8_apart 25 = .ok (.iload 4, 2) := by decide +kernel
theorem dX8_apart_27 : decode cX8_apart 27 = .ok (.invokevirtual 177, 3) := by decide +kernel
theorem dX8_apart_30 : decode cX8_apart 30 = .ok (.isub, 1) := by decide +kernel
theorem dX8_apart_31 : decode cX8_apart 31 = .ok (.invokestatic 211, 3) := by decide +kernel
theorem dX8_apart_34 : decode cX8_apart 34 = .ok (.iadd, 1) := by decide +kernel
theorem dX8_apart_35 : decode cX8_apart 35 = .ok (.istore_n 3, 1) := by decide +kernel
theorem dX8_apart_36 : decode cX8_apart 36 = .ok (.iinc 4 1, 3) := by decide +kernel
theorem dX8_apart_39 : decode cX8_apart 39 = .ok (.goto (-34), 3) := by decide +kernel
theorem dX8_apart_42 : decode cX8_apart 42 = .ok (.iload_n 3, 1) := by decide +kernel
theorem dX8_apart_43 : decode cX8_apart 43 = .ok (.iconst 2, 1) := by decide +kernel
theorem dX8_apart_44 : decode cX8_apart 44 = .ok (.idiv, 1) := by decide +kernel
theorem dX8_apart_45 : decode cX8_apart 45 = .ok (.ireturn, 1) := by decide +kernel
theorem dX8_luck_0 : decode cX8_luck 0 = .ok (.aload_n 0, 1) := by decide +kernel
theorem dX8_luck_1 : decode cX8_luck 1 = .ok (.iload_n 1, 1) := by decide +kernel
theorem dX8_luck_2 : decode cX8_luck 2 = .ok (.invokevirtual 124, 3) := by decide +kernel
theorem dX8_luck_5 : decode cX8_luck 5 = .ok (.ifnull 19, 3) := by decide +kernel
theorem dX8_luck_8 : decode cX8_luck 8 = .ok (.iload_n 2, 1) := by decide +kernel
theorem dX8_luck_9 : decode cX8_luck 9 = .ok (.iconst (-1), 1) := by decide +kernel
theorem dX8_luck_10 : decode cX8_luck 10 = .ok (.if_icmp .lt 14, 3) := by decide +kernel
theorem dX8_luck_13 : decode cX8_luck 13 = .ok (.iload_n 2, 1) := by decide +kernel
theorem dX8_luck_14 : decode cX8_luck 14 = .ok (.aload_n 0, 1) := by decide +kernel
theorem dX8_luck_15 : decode cX8_luck 15 = .ok (.getfield 10, 3) := by decide +kernel
theorem dX8_luck_18 : decode cX8_luck 18 = .ok (.getfield 88, 3) := by decide +kernel
theorem dX8_luck_21 : decode cX8_luck 21 = .ok (.if_icmp .lt 5, 3) := by decide +kernel
theorem dX8_luck_24 : decode cX8_luck 24 = .ok (.iconst (-1), 1) := by decide +kernel
theorem dX8_luck_25 : decode cX8_luck 25 = .ok (.ireturn, 1) := by decide +kernel
theorem dX8_luck_26 : decode cX8_luck 26 = .ok (.aload_n 0, 1) := by decide +kernel
theorem dX8_luck_27 : decode cX8_luck 27 = .ok (.getfield 10, 3) := by decide +kernel
theorem dX8_luck_30 : decode cX8_luck 30 = .ok (.getfield 88, 3) := by decide +kernel
theorem dX8_luck_33 : decode cX8_luck 33 = .ok (.ifCond .ne 6, 3) := by decide +kernel
theorem dX8_luck_36 : decode cX8_luck 36 = .ok (.bipush (-2), 2) := by decide +kernel
theorem dX8_luck_38 : decode cX8_luck 38 = .ok (.ireturn, 1) := by decide +kernel
theorem dX8_luck_39 : decode cX8_luck 39 = .ok (.iload_n 2, 1) := by decide +kernel
theorem dX8_luck_40 : decode cX8_luck 40 = .ok (.ifCond .lt 10, 3) := by decide +kernel
theorem dX8_luck_43 : decode cX8_luck 43 = .ok (.aload_n 0, 1) := by decide +kernel
theorem dX8_luck_44 : decode cX8_luck 44 = .ok (.iload_n 1, 1) := by decide +kernel
theorem dX8_luck_45 : decode cX8_luck 45 = .ok (.iload_n 2, 1) := by decide +kernel
theorem dX8_luck_46 : decode cX8_luck 46 = .ok (.invokevirtual 220, 3) := by decide +kernel
theorem dX8_luck_49 : decode cX8_luck 49 = .ok (.ireturn, 1) := by decide +kernel
theorem dX8_luck_50 : decode cX8_luck 50 = .ok (.iconst 0, 1) := by decide +kernel
theorem dX8_luck_51 : decode cX8_luck 51 = .ok (.istore_n 3, 1) := by decide +kernel
theorem dX8_luck_52 : decode cX8_luck 52 = .ok (.iconst 0, 1) := by decide +kernel
theorem dX8_luck_53 : decode cX8_luck 53 = .ok (.istore 4, 2) := by decide +kernel
theorem dX8_luck_55 : decode cX8_luck 55 = .ok (.iload 4, 2) := by decide +kernel
theorem dX8_luck_57 : decode cX8_luck 57 = .ok (.aload_n 0, 1) := by decide +kernel
theorem dX8_luck_58 : decode cX8_luck 58 = .ok (.getfield 10, 3) := by decide +kernel
theorem dX8_luck_61 : decode cX8_luck 61 = .ok (.getfield 88, 3) := by decide +kernel
theorem dX8_luck_64 : decode cX8_luck 64 = .ok (.if_icmp .ge 33, 3) := by decide +kernel
theorem dX8_luck_67 : decode cX8_luck 67 = .ok (.aload_n 0, 1) := by decide +kernel
theorem dX8_luck_68 : decode cX8_luck 68 = .ok (.iload_n 1, 1) := by decide +kernel
theorem dX8_luck_69 : decode cX8_luck 69 = .ok (.iload 4, 2) := by decide +kernel
theorem dX8_luck_71 : decode cX8_luck 71 = .ok (.invokevirtual 220, 3) := by decide +kernel
theorem dX8_luck_74 : decode cX8_luck 74 = .ok (.istore 5, 2) := by decide +kernel
theorem dX8_luck_76 : decode cX8_luck 76 = .ok (.iload 5, 2) := by decide +kernel
theorem dX8_luck_78 : decode cX8_luck 78 = .ok (.bipush (-2), 2) := by decide +kernel
theorem dX8_luck_80 : decode cX8_luck 80 = .ok (.if_icmp .ne 6, 3) := by decide +kernel
theorem dX8_luck_83 : decode cX8_luck 83 = .ok (.bipush (-2), 2) := by decide +kernel
theorem dX8_luck_85 : decode cX8_luck 85 = .ok (.ireturn, 1) := by decide +kernel
theorem dX8_luck_86 : decode cX8_luck 86 = .ok (.iload_n 3, 1) := by decide +kernel
theorem dX8_luck_87 : decode cX8_luck 87 = .ok (.iload 5, 2) := by decide +kernel
theorem dX8_luck_89 : decode cX8_luck 89 = .ok (.iadd, 1) := by decide +kernel
theorem dX8_luck_90 : decode cX8_luck 90 = .ok (.istore_n 3, 1) := by decide +kernel
theorem dX8_luck_91 : decode cX8_luck 91 = .ok (.iinc 4 1, 3) := by decide +kernel
theorem dX8_luck_94 : decode cX8_luck 94 = .ok (.goto (-39), 3) := by decide +kernel
theorem dX8_luck_97 : decode cX8_luck 97 = .ok (.iload_n 3, 1) := by decide +kernel
theorem dX8_luck_98 : decode cX8_luck 98 = .ok (.aload_n 0, 1) := by decide +kernel
theorem dX8_luck_99 : decode cX8_luck 99 = .ok (.getfield 10, 3) := by decide +kernel
theorem dX8_luck_102 : decode cX8_luck 102 = .ok (.getfield 88, 3) := by decide +kernel
theorem dX8_luck_105 : decode cX8_luck 105 = .ok (.idiv, 1) := by decide +kernel
theorem dX8_luck_106 : decode cX8_luck 106 = .ok (.ireturn, 1) := by decide +kernel
theorem dX8_luckOf_0 : decode cX8_luckOf 0 = .ok (.iconst 0, 1) := by decide +kernel
theorem dX8_luckOf_1 : decode cX8_luckOf 1 = .ok (.istore_n 3, 1) := by decide +kernel
theorem dX8_luckOf_2 : decode cX8_luckOf 2 = .ok (.iconst 0, 1) := by decide +kernel
theorem dX8_luckOf_3 : decode cX8_luckOf 3 = .ok (.istore 4, 2) := by decide +kernel
theorem dX8_luckOf_5 : decode cX8_luckOf 5 = .ok (.iconst 0, 1) := by decide +kernel
theorem dX8_luckOf_6 : decode cX8_luckOf 6 = .ok (.istore 5, 2) := by decide +kernel
theorem dX8_luckOf_8 : decode cX8_luckOf 8 = .ok (.iload 5, 2) := by decide +kernel
theorem dX8_luckOf_10 : decode cX8_luckOf 10 = .ok (.aload_n 0, 1) := by decide +kernel
theorem dX8_luckOf_11 : decode cX8_luckOf 11 = .ok (.getfield 128, 3) := by decide +kernel
theorem dX8_luckOf_14 : decode cX8_luckOf 14 = .ok (.if_icmp .ge 96, 3) := by decide +kernel
theorem dX8_luckOf_17 : decode cX8_luckOf 17 = .ok (.aload_n 0, 1) := by decide +kernel
theorem dX8_luckOf_18 : decode cX8_luckOf 18 = .ok (.iload 5, 2) := by decide +kernel
theorem dX8_luckOf_20 : decode cX8_luckOf 20 = .ok (.invokevirtual 147, 3) := by decide +kernel
theorem dX8_luckOf_23 : decode cX8_luckOf 23 = .ok (.astore 6, 2) := by decide +kernel
theorem dX8_luckOf_25 : decode cX8_luckOf 25 = .ok (.iload 5, 2) := by decide +kernel
theorem dX8_luckOf_27 : decode cX8_luckOf 27 = .ok (.iconst 1, 1) := by decide +kernel
theorem dX8_luckOf_28 : decode cX8_luckOf 28 = .ok (.iadd, 1) := by decide +kernel
theorem dX8_luckOf_29 : decode cX8_luckOf 29 = .ok (.istore 7, 2) := by decide +kernel
theorem dX8_luckOf_31 : decode cX8_luckOf 31 = .ok (.iload 7, 2) := by decide +kernel
theorem dX8_luckOf_33 : decode cX8_luckOf 33 = .ok (.aload_n 0, 1) := by decide +kernel
theorem dX8_luckOf_34 : decode cX8_luckOf 34 = .ok (.getfield 128, 3) := by decide +kernel
theorem dX8_luckOf_37 : decode cX8_luckOf 37 = .ok (.if_icmp .ge 67, 3) := by decide +kernel
theorem dX8_luckOf_40 : decode cX8_luckOf 40 = .ok (.aload_n 0, 1) := by decide +kernel
theorem dX8_luckOf_41 : decode cX8_luckOf 41 = .ok (.iload 7, 2) := by decide +kernel
theorem dX8_luckOf_43 : decode cX8_luckOf 43 = .ok (.invokevirtual 147, 3) := by decide +kernel
theorem dX8_luckOf_46 : decode cX8_luckOf 46 = .ok (.astore 8, 2) := by decide +kernel
theorem dX8_luckOf_48 : decode cX8_luckOf 48 = .ok (.aload 6, 2) := by decide +kernel
theorem dX8_luckOf_50 : decode cX8_luckOf 50 = .ok (.ifnull 48, 3) := by decide +kernel
theorem dX8_luckOf_53 : decode cX8_luckOf 53 = .ok (.aload 8, 2) := by decide +kernel
theorem dX8_luckOf_55 : decode cX8_luckOf 55 = .ok (.ifnull 43, 3) := by decide +kernel
theorem dX8_luckOf_58 : decode cX8_luckOf 58 = .ok (.aload 6, 2) := by decide +kernel
theorem dX8_luckOf_60 : decode cX8_luckOf 60 = .ok (.getfield 135, 3) := by decide +kernel
theorem dX8_luckOf_63 : decode cX8_luckOf 63 = .ok (.iload_n 1, 1) := by decide +kernel
theorem dX8_luckOf_64 : decode cX8_luckOf 64 = .ok (.if_icmp .ne 34, 3) := by decide +kernel
theorem dX8_luckOf_67 : decode cX8_luckOf 67 = .ok (.aload 8, 2) := by decide +kernel
theorem dX8_luckOf_69 : decode cX8_luckOf 69 = .ok (.getfield 135, 3) := by decide +kernel
theorem dX8_luckOf_72 : decode cX8_luckOf 72 = .ok (.iload_n 1, 1) := by decide +kernel
theorem dX8_luckOf_73 : decode cX8_luckOf 73 = .ok (.if_icmp .ne 25, 3) := by decide +kernel
theorem dX8_luckOf_76 : decode cX8_luckOf 76 = .ok (.iload_n 3, 1) := by decide +kernel
theorem dX8_luckOf_77 : decode cX8_luckOf 77 = .ok (.aload 6, 2) := by decide +kernel
theorem dX8_luckOf_79 : decode cX8_luckOf 79 = .ok (.iload_n 2, 1) := by decide +kernel
theorem dX8_luckOf_80 : decode cX8_luckOf 80 = .ok (.invokevirtual 177, 3) := by decide +kernel
theorem dX8_luckOf_83 : decode cX8_luckOf 83 = .ok (.aload 8, 2) := by decide +kernel
theorem dX8_luckOf_85 : decode cX8_luckOf 85 = .ok (.iload_n 2, 1) := by decide +kernel
theorem dX8_luckOf_86 : decode cX8_luckOf 86 = .ok (.invokevirtual 177, 3) := by decide +kernel
theorem dX8_luckOf_89 : decode cX8_luckOf 89 = .ok (.isub, 1) := by decide +kernel
theorem dX8_luckOf_90 : decode cX8_luckOf 90 = .ok (.invokestatic 211, 3) := by decide +kernel
theorem dX8_luckOf_93 : decode cX8_luckOf 93 = .ok (.iadd, 1) := by decide +kernel
theorem dX8_luckOf_94 : decode cX8_luckOf 94 = .ok (.istore_n 3, 1) := by decide +kernel
theorem dX8_luckOf_95 : decode cX8_luckOf 95 = .ok (.iinc 4 1, 3) := by decide +kernel
theorem dX8_luckOf_98 : decode cX8_luckOf 98 = .ok (.iinc 7 1, 3) := by decide +kernel
theorem dX8_luckOf_101 : decode cX8_luckOf 101 = .ok (.goto (-70), 3) := by decide +kernel
theorem dX8_luckOf_104 : decode cX8_luckOf 104 = .ok (.iinc 5 1, 3) := by decide +kernel
theorem dX8_luckOf_107 : decode cX8_luckOf 107 = .ok (.goto (-99), 3) := by decide +kernel
theorem dX8_luckOf_110 : decode cX8_luckOf 110 = .ok (.iload 4, 2) := by decide +kernel
theorem dX8_luckOf_112 : decode cX8_luckOf 112 = .ok (.ifCond .ne 8, 3) := by decide +kernel
theorem dX8_luckOf_115 : decode cX8_luckOf 115 = .ok (.bipush (-2), 2) := by decide +kernel
theorem dX8_luckOf_117 : decode cX8_luckOf 117 = .ok (.goto 7, 3) := by decide +kernel
theorem dX8_luckOf_120 : decode cX8_luckOf 120 = .ok (.iload_n 3, 1) := by decide +kernel
theorem dX8_luckOf_121 : decode cX8_luckOf 121 = .ok (.iload 4, 2) := by decide +kernel
theorem dX8_luckOf_123 : decode cX8_luckOf 123 = .ok (.idiv, 1) := by decide +kernel
theorem dX8_luckOf_124 : decode cX8_luckOf 124 = .ok (.ireturn, 1) := by decide +kernel
theorem dX8_right_0 : decode cX8_right 0 = .ok (.aload_n 0, 1) := by decide +kernel
theorem dX8_right_1 : decode cX8_right 1 = .ok (.iload_n 1, 1) := by decide +kernel
theorem dX8_right_2 : decode cX8_right 2 = .ok (.invokevirtual 147, 3) := by decide +kernel
theorem dX8_right_5 : decode cX8_right 5 = .ok (.astore_n 2, 1) := by decide +kernel
theorem dX8_right_6 : decode cX8_right 6 = .ok (.aload_n 2, 1) := by decide +kernel
theorem dX8_right_7 : decode cX8_right 7 = .ok (.ifnonnull 5, 3) := by decide +kernel
theorem dX8_right_10 : decode cX8_right 10 = .ok (.iconst (-1), 1) := by decide +kernel
theorem dX8_right_11 : decode cX8_right 11 = .ok (.ireturn, 1) := by decide +kernel
theorem dX8_right_12 : decode cX8_right 12 = .ok (.iconst 0, 1) := by decide +kernel
theorem dX8_right_13 : decode cX8_right 13 = .ok (.istore_n 3, 1) := by decide +kernel
theorem dX8_right_14 : decode cX8_right 14 = .ok (.iconst 0, 1) := by decide +kernel
theorem dX8_right_15 : decode cX8_right 15 = .ok (.istore 4, 2) := by decide +kernel
theorem dX8_right_17 : decode cX8_right 17 = .ok (.iconst 0, 1) := by decide +kernel
theorem dX8_right_18 : decode cX8_right 18 = .ok (.istore 5, 2) := by decide +kernel
theorem dX8_right_20 : decode cX8_right 20 = .ok (.iload 5, 2) := by decide +kernel
theorem dX8_right_22 : decode cX8_right 22 = .ok (.aload_n 0, 1) := by decide +kernel
theorem dX8_right_23 : decode cX8_right 23 = .ok (.getfield 10, 3) := by decide +kernel
theorem dX8_right_26 : decode cX8_right 26 = .ok (.getfield 88, 3) := by decide +kernel
theorem dX8_right_29 : decode cX8_right 29 = .ok (.if_icmp .ge 71, 3) := by decide +kernel
theorem dX8_right_32 : decode cX8_right 32 = .ok (.iload 5, 2) := by decide +kernel
theorem dX8_right_34 : decode cX8_right 34 = .ok (.iconst 1, 1) := by decide +kernel
theorem dX8_right_35 : decode cX8_right 35 = .ok (.iadd, 1) := by decide +kernel
theorem dX8_right_36 : decode cX8_right 36 = .ok (.istore 6, 2) := by decide +kernel
theorem dX8_right_38 : decode cX8_right 38 = .ok (.iload 6, 2) := by decide +kernel
theorem dX8_right_40 : decode cX8_right 40 = .ok (.aload_n 0, 1) := by decide +kernel
theorem dX8_right_41 : decode cX8_right 41 = .ok (.getfield 10, 3) := by decide +kernel
theorem dX8_right_44 : decode cX8_right 44 = .ok (.getfield 88, 3) := by decide +kernel
theorem dX8_right_47 : decode cX8_right 47 = .ok (.if_icmp .ge 47, 3) := by decide +kernel
theorem dX8_right_50 : decode cX8_right 50 = .ok (.aload_n 2, 1) := by decide +kernel
theorem dX8_right_51 : decode cX8_right 51 = .ok (.iload 5, 2) := by decide +kernel
theorem dX8_right_53 : decode cX8_right 53 = .ok (.iload 6, 2) := by decide +kernel
theorem dX8_right_55 : decode cX8_right 55 = .ok (.invokevirtual 224, 3) := by decide +kernel
theorem dX8_right_58 : decode cX8_right 58 = .ok (.istore 7, 2) := by decide +kernel
theorem dX8_right_60 : decode cX8_right 60 = .ok (.iload_n 3, 1) := by decide +kernel
theorem dX8_right_61 : decode cX8_right 61 = .ok (.iload 7, 2) := by decide +kernel
theorem dX8_right_63 : decode cX8_right 63 = .ok (.ifCond .le 7, 3) := by decide +kernel
theorem dX8_right_66 : decode cX8_right 66 = .ok (.iconst 1, 1) := by decide +kernel
theorem dX8_right_67 : decode cX8_right 67 = .ok (.goto 4, 3) := by decide +kernel
theorem dX8_right_70 : decode cX8_right 70 = .ok (.iconst 0, 1) := by decide +kernel
theorem dX8_right_71 : decode cX8_right 71 = .ok (.iadd, 1) := by decide +kernel
theorem dX8_right_72 : decode cX8_right 72 = .ok (.istore_n 3, 1) := by decide +kernel
theorem dX8_right_73 : decode cX8_right 73 = .ok (.iload 4, 2) := by decide +kernel
theorem dX8_right_75 : decode cX8_right 75 = .ok (.iload 7, 2) := by decide +kernel
theorem dX8_right_77 : decode cX8_right 77 = .ok (.ifCond .eq 7, 3) := by decide +kernel
theorem dX8_right_80 : decode cX8_right 80 = .ok (.iconst 1, 1) := by decide +kernel
theorem dX8_right_81 : decode cX8_right 81 = .ok (.goto 4, 3) := by decide +kernel
theorem dX8_right_84 : decode cX8_right 84 = .ok (.iconst 0, 1) := by decide +kernel
theorem dX8_right_85 : decode cX8_right 85 = .ok (.iadd, 1) := by decide +kernel
theorem dX8_right_86 : decode cX8_right 86 = .ok (.istore 4, 2) := by decide +kernel
theorem dX8_right_88 : decode cX8_right 88 = .ok (.iinc 6 1, 3) := by decide +kernel
theorem dX8_right_91 : decode cX8_right 91 = .ok (.goto (-53), 3) := by decide +kernel
theorem dX8_right_94 : decode cX8_right 94 = .ok (.iinc 5 1, 3) := by decide +kernel
theorem dX8_right_97 : decode cX8_right 97 = .ok (.goto (-77), 3) := by decide +kernel
theorem dX8_right_100 : decode cX8_right 100 = .ok (.iload 4, 2) := by decide +kernel
theorem dX8_right_102 : decode cX8_right 102 = .ok (.ifCond .ne 8, 3) := by decide +kernel
theorem dX8_right_105 : decode cX8_right 105 = .ok (.bipush (-2), 2) := by decide +kernel
theorem dX8_right_107 : decode cX8_right 107 = .ok (.goto 11, 3) := by decide +kernel
theorem dX8_right_110 : decode cX8_right 110 = .ok (.iload_n 3, 1) := by decide +kernel
theorem dX8_right_111 : decode cX8_right 111 = .ok (.sipush 1000, 3) := by decide +kernel
theorem dX8_right_114 : decode cX8_right 114 = .ok (.imul, 1) := by decide +kernel
theorem dX8_right_115 : decode cX8_right 115 = .ok (.iload 4, 2) := by decide +kernel
theorem dX8_right_117 : decode cX8_right 117 = .ok (.idiv, 1) := by decide +kernel
theorem dX8_right_118 : decode cX8_right 118 = .ok (.ireturn, 1) := by decide +kernel
theorem dX8_guess_0 : decode cX8_guess 0 = .ok (.iload_n 1, 1) := by decide +kernel
theorem dX8_guess_1 : decode cX8_guess 1 = .ok (.ifCond .lt 22, 3) := by decide +kernel
theorem dX8_guess_4 : decode cX8_guess 4 = .ok (.iload_n 1, 1) := by decide +kernel
theorem dX8_guess_5 : decode cX8_guess 5 = .ok (.iconst 1, 1) := by decide +kernel
theorem dX8_guess_6 : decode cX8_guess 6 = .ok (.aload_n 0, 1) := by decide +kernel
theorem dX8_guess_7 : decode cX8_guess 7 = .ok (.getfield 128, 3) := by decide +kernel
theorem dX8_guess_10 : decode cX8_guess 10 = .ok (.ishl, 1) := by decide +kernel
theorem dX8_guess_11 : decode cX8_guess 11 = .ok (.if_icmp .ge 12, 3) := by decide +kernel
theorem dX8_guess_14 : decode cX8_guess 14 = .ok (.iload_n 2, 1) := by decide +kernel
theorem dX8_guess_15 : decode cX8_guess 15 = .ok (.ifCond .lt 8, 3) := by decide +kernel
theorem dX8_guess_18 : decode cX8_guess 18 = .ok (.iload_n 2, 1) := by decide +kernel
theorem dX8_guess_19 : decode cX8_guess 19 = .ok (.iconst 1, 1) := by decide +kernel
theorem dX8_guess_20 : decode cX8_guess 20 = .ok (.if_icmp .le 5, 3) := by decide +kernel
theorem dX8_guess_23 : decode cX8_guess 23 = .ok (.iconst (-1), 1) := by decide +kernel
theorem dX8_guess_24 : decode cX8_guess 24 = .ok (.ireturn, 1) := by decide +kernel
theorem dX8_guess_25 : decode cX8_guess 25 = .ok (.iconst 0, 1) := by decide +kernel
theorem dX8_guess_26 : decode cX8_guess 26 = .ok (.istore_n 3, 1) := by decide +kernel
theorem dX8_guess_27 : decode cX8_guess 27 = .ok (.iconst 0, 1) := by decide +kernel
theorem dX8_guess_28 : decode cX8_guess 28 = .ok (.istore 4, 2) := by decide +kernel
theorem dX8_guess_30 : decode cX8_guess 30 = .ok (.iconst 0, 1) := by decide +kernel
theorem dX8_guess_31 : decode cX8_guess 31 = .ok (.istore 5, 2) := by decide +kernel
theorem dX8_guess_33 : decode cX8_guess 33 = .ok (.iload 5, 2) := by decide +kernel
theorem dX8_guess_35 : decode cX8_guess 35 = .ok (.aload_n 0, 1) := by decide +kernel
theorem dX8_guess_36 : decode cX8_guess 36 = .ok (.getfield 10, 3) := by decide +kernel
theorem dX8_guess_39 : decode cX8_guess 39 = .ok (.getfield 88, 3) := by decide +kernel
theorem dX8_guess_42 : decode cX8_guess 42 = .ok (.if_icmp .ge 86, 3) := by decide +kernel
theorem dX8_guess_45 : decode cX8_guess 45 = .ok (.iload 5, 2) := by decide +kernel
theorem dX8_guess_47 : decode cX8_guess 47 = .ok (.iconst 1, 1) := by decide +kernel
theorem dX8_guess_48 : decode cX8_guess 48 = .ok (.iadd, 1) := by decide +kernel
theorem dX8_guess_49 : decode cX8_guess 49 = .ok (.istore 6, 2) := by decide +kernel
theorem dX8_guess_51 : decode cX8_guess 51 = .ok (.iload 6, 2) := by decide +kernel
theorem dX8_guess_53 : decode cX8_guess 53 = .ok (.aload_n 0, 1) := by decide +kernel
theorem dX8_guess_54 : decode cX8_guess 54 = .ok (.getfield 10, 3) := by decide +kernel
theorem dX8_guess_57 : decode cX8_guess 57 = .ok (.getfield 88, 3) := by decide +kernel
theorem dX8_guess_60 : decode cX8_guess 60 = .ok (.if_icmp .ge 62, 3) := by decide +kernel
theorem dX8_guess_63 : decode cX8_guess 63 = .ok (.aload_n 0, 1) := by decide +kernel
theorem dX8_guess_64 : decode cX8_guess 64 = .ok (.iload_n 1, 1) := by decide +kernel
theorem dX8_guess_65 : decode cX8_guess 65 = .ok (.iload 5, 2) := by decide +kernel
theorem dX8_guess_67 : decode cX8_guess 67 = .ok (.iload 6, 2) := by decide +kernel
theorem dX8_guess_69 : decode cX8_guess 69 = .ok (.iconst 1, 1) := by decide +kernel
theorem dX8_guess_70 : decode cX8_guess 70 = .ok (.invokevirtual 227, 3) := by decide +kernel
theorem dX8_guess_73 : decode cX8_guess 73 = .ok (.istore 7, 2) := by decide +kernel
theorem dX8_guess_75 : decode cX8_guess 75 = .ok (.aload_n 0, 1) := by decide +kernel
theorem dX8_guess_76 : decode cX8_guess 76 = .ok (.iload_n 1, 1) := by decide +kernel
theorem dX8_guess_77 : decode cX8_guess 77 = .ok (.iload 5, 2) := by decide +kernel
theorem dX8_guess_79 : decode cX8_guess 79 = .ok (.iload 6, 2) := by decide +kernel
theorem dX8_guess_81 : decode cX8_guess 81 = .ok (.iconst (-1), 1) := by decide +kernel
theorem dX8_guess_82 : decode cX8_guess 82 = .ok (.invokevirtual 227, 3) := by decide +kernel
theorem dX8_guess_85 : decode cX8_guess 85 = .ok (.istore 8, 2) := by decide +kernel
theorem dX8_guess_87 : decode cX8_guess 87 = .ok (.iload_n 3, 1) := by decide +kernel
theorem dX8_guess_88 : decode cX8_guess 88 = .ok (.iload_n 2, 1) := by decide +kernel
theorem dX8_guess_89 : decode cX8_guess 89 = .ok (.ifCond .ne 8, 3) := by decide +kernel
theorem dX8_guess_92 : decode cX8_guess 92 = .ok (.iload 7, 2) := by decide +kernel
theorem dX8_guess_94 : decode cX8_guess 94 = .ok (.goto 10, 3) := by decide +kernel
theorem dX8_guess_97 : decode cX8_guess 97 = .ok (.iload 7, 2) := by decide +kernel
theorem dX8_guess_99 : decode cX8_guess 99 = .ok (.iload 8, 2) := by decide +kernel
theorem dX8_guess_101 : decode cX8_guess 101 = .ok (.invokestatic 231, 3) := by decide +kernel
theorem dX8_guess_104 : decode cX8_guess 104 = .ok (.iadd, 1) := by decide +kernel
theorem dX8_guess_105 : decode cX8_guess 105 = .ok (.istore_n 3, 1) := by decide +kernel
theorem dX8_guess_106 : decode cX8_guess 106 = .ok (.iload 4, 2) := by decide +kernel
theorem dX8_guess_108 : decode cX8_guess 108 = .ok (.iload 7, 2) := by decide +kernel
theorem dX8_guess_110 : decode cX8_guess 110 = .ok (.iload 8, 2) := by decide +kernel
theorem dX8_guess_112 : decode cX8_guess 112 = .ok (.iadd, 1) := by decide +kernel
theorem dX8_guess_113 : decode cX8_guess 113 = .ok (.iadd, 1) := by decide +kernel
theorem dX8_guess_114 : decode cX8_guess 114 = .ok (.istore 4, 2) := by decide +kernel
theorem dX8_guess_116 : decode cX8_guess 116 = .ok (.iinc 6 1, 3) := by decide +kernel
theorem dX8_guess_119 : decode cX8_guess 119 = .ok (.goto (-68), 3) := by decide +kernel
theorem dX8_guess_122 : decode cX8_guess 122 = .ok (.iinc 5 1, 3) := by decide +kernel
theorem dX8_guess_125 : decode cX8_guess 125 = .ok (.goto (-92), 3) := by decide +kernel
theorem dX8_guess_128 : decode cX8_guess 128 = .ok (.iload 4, 2) := by decide +kernel
theorem dX8_guess_130 : decode cX8_guess 130 = .ok (.ifCond .ne 8, 3) := by decide +kernel
theorem dX8_guess_133 : decode cX8_guess 133 = .ok (.bipush (-2), 2) := by decide +kernel
theorem dX8_guess_135 : decode cX8_guess 135 = .ok (.goto 11, 3) := by decide +kernel
theorem dX8_guess_138 : decode cX8_guess 138 = .ok (.iload_n 3, 1) := by decide +kernel
theorem dX8_guess_139 : decode cX8_guess 139 = .ok (.sipush 1000, 3) := by decide +kernel
theorem dX8_guess_142 : decode cX8_guess 142 = .ok (.imul, 1) := by decide +kernel
theorem dX8_guess_143 : decode cX8_guess 143 = .ok (.iload 4, 2) := by decide +kernel
theorem dX8_guess_145 : decode cX8_guess 145 = .ok (.idiv, 1) := by decide +kernel
theorem dX8_guess_146 : decode cX8_guess 146 = .ok (.ireturn, 1) := by decide +kernel
theorem dX8_waysOf_0 : decode cX8_waysOf 0 = .ok (.iconst 0, 1) := by decide +kernel
theorem dX8_waysOf_1 : decode cX8_waysOf 1 = .ok (.istore 5, 2) := by decide +kernel
theorem dX8_waysOf_3 : decode cX8_waysOf 3 = .ok (.iconst 0, 1) := by decide +kernel
theorem dX8_waysOf_4 : decode cX8_waysOf 4 = .ok (.istore 6, 2) := by decide +kernel
theorem dX8_waysOf_6 : decode cX8_waysOf 6 = .ok (.iload 6, 2) := by decide +kernel
theorem dX8_waysOf_8 : decode cX8_waysOf 8 = .ok (.aload_n 0, 1) := by decide +kernel
theorem dX8_waysOf_9 : decode cX8_waysOf 9 = .ok (.getfield 128, 3) := by decide +kernel
theorem dX8_waysOf_12 : decode cX8_waysOf 12 = .ok (.if_icmp .ge 47, 3) := by decide +kernel
theorem dX8_waysOf_15 : decode cX8_waysOf 15 = .ok (.aload_n 0, 1) := by decide +kernel
theorem dX8_waysOf_16 : decode cX8_waysOf 16 = .ok (.iload 6, 2) := by decide +kernel
theorem dX8_waysOf_18 : decode cX8_waysOf 18 = .ok (.invokevirtual 147, 3) := by decide +kernel
theorem dX8_waysOf_21 : decode cX8_waysOf 21 = .ok (.astore 7, 2) := by decide +kernel
theorem dX8_waysOf_23 : decode cX8_waysOf 23 = .ok (.aload 7, 2) := by decide +kernel
theorem dX8_waysOf_25 : decode cX8_waysOf 25 = .ok (.ifnull 28, 3) := by decide +kernel
theorem dX8_waysOf_28 : decode cX8_waysOf 28 = .ok (.iload_n 1, 1) := by decide +kernel
theorem dX8_waysOf_29 : decode cX8_waysOf 29 = .ok (.iload 6, 2) := by decide +kernel
theorem dX8_waysOf_31 : decode cX8_waysOf 31 = .ok (.ishr, 1) := by decide +kernel
theorem dX8_waysOf_32 : decode cX8_waysOf 32 = .ok (.iconst 1, 1) := by decide +kernel
theorem dX8_waysOf_33 : decode cX8_waysOf 33 = .ok (.iand, 1) := by decide +kernel
theorem dX8_waysOf_34 : decode cX8_waysOf 34 = .ok (.iconst 1, 1) := by decide +kernel
theorem dX8_waysOf_35 : decode cX8_waysOf 35 = .ok (.if_icmp .ne 18, 3) := by decide +kernel
theorem dX8_waysOf_38 : decode cX8_waysOf 38 = .ok (.aload 7, 2) := by decide +kernel
theorem dX8_waysOf_40 : decode cX8_waysOf 40 = .ok (.iload_n 2, 1) := by decide +kernel
theorem dX8_waysOf_41 : decode cX8_waysOf 41 = .ok (.iload_n 3, 1) := by decide +kernel
theorem dX8_waysOf_42 : decode cX8_waysOf 42 = .ok (.invokevirtual 224, 3) := by decide +kernel
theorem dX8_waysOf_45 : decode cX8_waysOf 45 = .ok (.iload 4, 2) := by decide +kernel
theorem dX8_waysOf_47 : decode cX8_waysOf 47 = .ok (.if_icmp .ne 6, 3) := by decide +kernel
theorem dX8_waysOf_50 : decode cX8_waysOf 50 = .ok (.iinc 5 1, 3) := by decide +kernel
theorem dX8_waysOf_53 : decode cX8_waysOf 53 = .ok (.iinc 6 1, 3) := by decide +kernel
theorem dX8_waysOf_56 : decode cX8_waysOf 56 = .ok (.goto (-50), 3) := by decide +kernel
theorem dX8_waysOf_59 : decode cX8_waysOf 59 = .ok (.iload 5, 2) := by decide +kernel
theorem dX8_waysOf_61 : decode cX8_waysOf 61 = .ok (.ireturn, 1) := by decide +kernel
theorem dX8_odds_0 : decode cX8_odds 0 = .ok (.aload_n 0, 1) := by decide +kernel
theorem dX8_odds_1 : decode cX8_odds 1 = .ok (.iload_n 1, 1) := by decide +kernel
theorem dX8_odds_2 : decode cX8_odds 2 = .ok (.invokevirtual 147, 3) := by decide +kernel
theorem dX8_odds_5 : decode cX8_odds 5 = .ok (.astore 5, 2) := by decide +kernel
theorem dX8_odds_7 : decode cX8_odds 7 = .ok (.aload 5, 2) := by decide +kernel
theorem dX8_odds_9 : decode cX8_odds 9 = .ok (.ifnull 35, 3) := by decide +kernel
theorem dX8_odds_12 : decode cX8_odds 12 = .ok (.aload_n 0, 1) := by decide +kernel
theorem dX8_odds_13 : decode cX8_odds 13 = .ok (.getfield 10, 3) := by decide +kernel
theorem dX8_odds_16 : decode cX8_odds 16 = .ok (.iload_n 2, 1) := by decide +kernel
theorem dX8_odds_17 : decode cX8_odds 17 = .ok (.invokevirtual 95, 3) := by decide +kernel
theorem dX8_odds_20 : decode cX8_odds 20 = .ok (.ifCond .eq 24, 3) := by decide +kernel
theorem dX8_odds_23 : decode cX8_odds 23 = .ok (.iload_n 3, 1) := by decide +kernel
theorem dX8_odds_24 : decode cX8_odds 24 = .ok (.ifCond .lt 20, 3) := by decide +kernel
theorem dX8_odds_27 : decode cX8_odds 27 = .ok (.iload_n 3, 1) := by decide +kernel
theorem dX8_odds_28 : decode cX8_odds 28 = .ok (.bipush 6, 2) := by decide +kernel
theorem dX8_odds_30 : decode cX8_odds 30 = .ok (.if_icmp .gt 14, 3) := by decide +kernel
theorem dX8_odds_33 : decode cX8_odds 33 = .ok (.iload 4, 2) := by decide +kernel
