theorem dX9_findPairs_107 : decode cX9_findPairs 107 = .ok (.iload_n 3, 1) := by decide +kernel
theorem dX9_findPairs_108 : decode cX9_findPairs 108 = .ok (.iaload, 1) := by decide +kernel
theorem dX9_findPairs_109 : decode cX9_findPairs 109 = .ok (.if_icmp .le 7, 3) := by decide +kernel
theorem dX9_findPairs_112 : decode cX9_findPairs 112 = .ok (.iconst 1, 1) := by decide +kernel
theorem dX9_findPairs_113 : decode cX9_findPairs 113 = .ok (.goto 4, 3) := by decide +kernel
theorem dX9_findPairs_116 : decode cX9_findPairs 116 = .ok (.iconst 0, 1) := by decide +kernel
theorem dX9_findPairs_117 : decode cX9_findPairs 117 = .ok (.aload_n 0, 1) := by decide +kernel
theorem dX9_findPairs_118 : decode cX9_findPairs 118 = .ok (.iload 6, 2) := by decide +kernel
theorem dX9_findPairs_120 : decode cX9_findPairs 120 = .ok (.iload_n 2, 1) := by decide +kernel
theorem dX9_findPairs_121 : decode cX9_findPairs 121 = .ok (.invokevirtual 191, 3) := by decide +kernel
theorem dX9_findPairs_124 : decode cX9_findPairs 124 = .ok (.aload_n 0, 1) := by decide +kernel
theorem dX9_findPairs_125 : decode cX9_findPairs 125 = .ok (.iload 6, 2) := by decide +kernel
theorem dX9_findPairs_127 : decode cX9_findPairs 127 = .ok (.iload_n 3, 1) := by decide +kernel
theorem dX9_findPairs_128 : decode cX9_findPairs 128 = .ok (.invokevirtual 191, 3) := by decide +kernel
theorem dX9_findPairs_131 : decode cX9_findPairs 131 = .ok (.if_icmp .le 7, 3) := by decide +kernel
theorem dX9_findPairs_134 : decode cX9_findPairs 134 = .ok (.iconst 1, 1) := by decide +kernel
theorem dX9_findPairs_135 : decode cX9_findPairs 135 = .ok (.goto 4, 3) := by decide +kernel
theorem dX9_findPairs_138 : decode cX9_findPairs 138 = .ok (.iconst 0, 1) := by decide +kernel
theorem dX9_findPairs_139 : decode cX9_findPairs 139 = .ok (.if_icmp .ne 7, 3) := by decide +kernel
theorem dX9_findPairs_142 : decode cX9_findPairs 142 = .ok (.iconst 1, 1) := by decide +kernel
theorem dX9_findPairs_143 : decode cX9_findPairs 143 = .ok (.goto 4, 3) := by decide +kernel
theorem dX9_findPairs_146 : decode cX9_findPairs 146 = .ok (.iconst 0, 1) := by decide +kernel
theorem dX9_findPairs_147 : decode cX9_findPairs 147 = .ok (.iadd, 1) := by decide +kernel
theorem dX9_findPairs_148 : decode cX9_findPairs 148 = .ok (.istore 4, 2) := by decide +kernel
theorem dX9_findPairs_150 : decode cX9_findPairs 150 = .ok (.iinc 6 1, 3) := by decide +kernel
theorem dX9_findPairs_153 : decode cX9_findPairs 153 = .ok (.goto (-112), 3) := by decide +kernel
theorem dX9_findPairs_156 : decode cX9_findPairs 156 = .ok (.aload_n 0, 1) := by decide +kernel
theorem dX9_findPairs_157 : decode cX9_findPairs 157 = .ok (.dup, 1) := by decide +kernel
theorem dX9_findPairs_158 : decode cX9_findPairs 158 = .ok (.getfield 260, 3) := by decide +kernel
theorem dX9_findPairs_161 : decode cX9_findPairs 161 = .ok (.iload 4, 2) := by decide +kernel
theorem dX9_findPairs_163 : decode cX9_findPairs 163 = .ok (.iadd, 1) := by decide +kernel
theorem dX9_findPairs_164 : decode cX9_findPairs 164 = .ok (.putfield 260, 3) := by decide +kernel
theorem dX9_findPairs_167 : decode cX9_findPairs 167 = .ok (.aload_n 0, 1) := by decide +kernel
theorem dX9_findPairs_168 : decode cX9_findPairs 168 = .ok (.dup, 1) := by decide +kernel
theorem dX9_findPairs_169 : decode cX9_findPairs 169 = .ok (.getfield 263, 3) := by decide +kernel
theorem dX9_findPairs_172 : decode cX9_findPairs 172 = .ok (.iload 5, 2) := by decide +kernel
theorem dX9_findPairs_174 : decode cX9_findPairs 174 = .ok (.iadd, 1) := by decide +kernel
theorem dX9_findPairs_175 : decode cX9_findPairs 175 = .ok (.putfield 263, 3) := by decide +kernel
theorem dX9_findPairs_178 : decode cX9_findPairs 178 = .ok (.aload_n 0, 1) := by decide +kernel
theorem dX9_findPairs_179 : decode cX9_findPairs 179 = .ok (.dup, 1) := by decide +kernel
theorem dX9_findPairs_180 : decode cX9_findPairs 180 = .ok (.getfield 266, 3) := by decide +kernel
theorem dX9_findPairs_183 : decode cX9_findPairs 183 = .ok (.iload 4, 2) := by decide +kernel
theorem dX9_findPairs_185 : decode cX9_findPairs 185 = .ok (.iload 5, 2) := by decide +kernel
theorem dX9_findPairs_187 : decode cX9_findPairs 187 = .ok (.iload 4, 2) := by decide +kernel
theorem dX9_findPairs_189 : decode cX9_findPairs 189 = .ok (.isub, 1) := by decide +kernel
theorem dX9_findPairs_190 : decode cX9_findPairs 190 = .ok (.if_icmp .le 8, 3) := by decide +kernel
theorem dX9_findPairs_193 : decode cX9_findPairs 193 = .ok (.iload 4, 2) := by decide +kernel
theorem dX9_findPairs_195 : decode cX9_findPairs 195 = .ok (.goto 8, 3) := by decide +kernel
theorem dX9_findPairs_198 : decode cX9_findPairs 198 = .ok (.iload 5, 2) := by decide +kernel
theorem dX9_findPairs_200 : decode cX9_findPairs 200 = .ok (.iload 4, 2) := by decide +kernel
theorem dX9_findPairs_202 : decode cX9_findPairs 202 = .ok (.isub, 1) := by decide +kernel
theorem dX9_findPairs_203 : decode cX9_findPairs 203 = .ok (.iadd, 1) := by decide +kernel
theorem dX9_findPairs_204 : decode cX9_findPairs 204 = .ok (.putfield 266, 3) := by decide +kernel
theorem dX9_findPairs_207 : decode cX9_findPairs 207 = .ok (.iinc 3 1, 3) := by decide +kernel
theorem dX9_findPairs_210 : decode cX9_findPairs 210 = .ok (.goto (-183), 3) := by decide +kernel
theorem dX9_findPairs_213 : decode cX9_findPairs 213 = .ok (.iinc 2 1, 3) := by decide +kernel
theorem dX9_findPairs_216 : decode cX9_findPairs 216 = .ok (.goto (-199), 3) := by decide +kernel
theorem dX9_findPairs_219 : decode cX9_findPairs 219 = .ok (.return_, 1) := by decide +kernel
theorem dX9_right_0 : decode cX9_right 0 = .ok (.aload_n 0, 1) := by decide +kernel
theorem dX9_right_1 : decode cX9_right 1 = .ok (.iload_n 1, 1) := by decide +kernel
theorem dX9_right_2 : decode cX9_right 2 = .ok (.invokevirtual 186, 3) := by decide +kernel
theorem dX9_right_5 : decode cX9_right 5 = .ok (.ifCond .ne 5, 3) := by decide +kernel
theorem dX9_right_8 : decode cX9_right 8 = .ok (.iconst (-1), 1) := by decide +kernel
theorem dX9_right_9 : decode cX9_right 9 = .ok (.ireturn, 1) := by decide +kernel
theorem dX9_right_10 : decode cX9_right 10 = .ok (.aload_n 0, 1) := by decide +kernel
theorem dX9_right_11 : decode cX9_right 11 = .ok (.iconst 1, 1) := by decide +kernel
theorem dX9_right_12 : decode cX9_right 12 = .ok (.iload_n 1, 1) := by decide +kernel
theorem dX9_right_13 : decode cX9_right 13 = .ok (.ishl, 1) := by decide +kernel
theorem dX9_right_14 : decode cX9_right 14 = .ok (.invokevirtual 269, 3) := by decide +kernel
theorem dX9_right_17 : decode cX9_right 17 = .ok (.aload_n 0, 1) := by decide +kernel
theorem dX9_right_18 : decode cX9_right 18 = .ok (.getfield 263, 3) := by decide +kernel
theorem dX9_right_21 : decode cX9_right 21 = .ok (.ifCond .ne 8, 3) := by decide +kernel
theorem dX9_right_24 : decode cX9_right 24 = .ok (.bipush (-2), 2) := by decide +kernel
theorem dX9_right_26 : decode cX9_right 26 = .ok (.goto 16, 3) := by decide +kernel
theorem dX9_right_29 : decode cX9_right 29 = .ok (.sipush 1000, 3) := by decide +kernel
theorem dX9_right_32 : decode cX9_right 32 = .ok (.aload_n 0, 1) := by decide +kernel
theorem dX9_right_33 : decode cX9_right 33 = .ok (.getfield 260, 3) := by decide +kernel
theorem dX9_right_36 : decode cX9_right 36 = .ok (.imul, 1) := by decide +kernel
theorem dX9_right_37 : decode cX9_right 37 = .ok (.aload_n 0, 1) := by decide +kernel
theorem dX9_right_38 : decode cX9_right 38 = .ok (.getfield 263, 3) := by decide +kernel
theorem dX9_right_41 : decode cX9_right 41 = .ok (.idiv, 1) := by decide +kernel
theorem dX9_right_42 : decode cX9_right 42 = .ok (.ireturn, 1) := by decide +kernel
theorem dX9_guess_0 : decode cX9_guess 0 = .ok (.iload_n 1, 1) := by decide +kernel
theorem dX9_guess_1 : decode cX9_guess 1 = .ok (.ifCond .lt 22, 3) := by decide +kernel
theorem dX9_guess_4 : decode cX9_guess 4 = .ok (.iload_n 1, 1) := by decide +kernel
theorem dX9_guess_5 : decode cX9_guess 5 = .ok (.aload_n 0, 1) := by decide +kernel
theorem dX9_guess_6 : decode cX9_guess 6 = .ok (.getfield 174, 3) := by decide +kernel
theorem dX9_guess_9 : decode cX9_guess 9 = .ok (.ishr, 1) := by decide +kernel
theorem dX9_guess_10 : decode cX9_guess 10 = .ok (.ifCond .ne 13, 3) := by decide +kernel
theorem dX9_guess_13 : decode cX9_guess 13 = .ok (.iload_n 2, 1) := by decide +kernel
theorem dX9_guess_14 : decode cX9_guess 14 = .ok (.i2l, 1) := by decide +kernel
theorem dX9_guess_15 : decode cX9_guess 15 = .ok (.lconst 0, 1) := by decide +kernel
theorem dX9_guess_16 : decode cX9_guess 16 = .ok (.lconst 1, 1) := by decide +kernel
theorem dX9_guess_17 : decode cX9_guess 17 = .ok (.invokestatic 102, 3) := by decide +kernel
theorem dX9_guess_20 : decode cX9_guess 20 = .ok (.ifCond .ne 5, 3) := by decide +kernel
theorem dX9_guess_23 : decode cX9_guess 23 = .ok (.iconst (-1), 1) := by decide +kernel
theorem dX9_guess_24 : decode cX9_guess 24 = .ok (.ireturn, 1) := by decide +kernel
theorem dX9_guess_25 : decode cX9_guess 25 = .ok (.aload_n 0, 1) := by decide +kernel
theorem dX9_guess_26 : decode cX9_guess 26 = .ok (.iload_n 1, 1) := by decide +kernel
theorem dX9_guess_27 : decode cX9_guess 27 = .ok (.invokevirtual 269, 3) := by decide +kernel
theorem dX9_guess_30 : decode cX9_guess 30 = .ok (.aload_n 0, 1) := by decide +kernel
theorem dX9_guess_31 : decode cX9_guess 31 = .ok (.getfield 263, 3) := by decide +kernel
theorem dX9_guess_34 : decode cX9_guess 34 = .ok (.ifCond .ne 8, 3) := by decide +kernel
theorem dX9_guess_37 : decode cX9_guess 37 = .ok (.bipush (-2), 2) := by decide +kernel
theorem dX9_guess_39 : decode cX9_guess 39 = .ok (.goto 27, 3) := by decide +kernel
theorem dX9_guess_42 : decode cX9_guess 42 = .ok (.sipush 1000, 3) := by decide +kernel
theorem dX9_guess_45 : decode cX9_guess 45 = .ok (.iload_n 2, 1) := by decide +kernel
theorem dX9_guess_46 : decode cX9_guess 46 = .ok (.ifCond .ne 10, 3) := by decide +kernel
theorem dX9_guess_49 : decode cX9_guess 49 = .ok (.aload_n 0, 1) := by decide +kernel
theorem dX9_guess_50 : decode cX9_guess 50 = .ok (.getfield 260, 3) := by decide +kernel
theorem dX9_guess_53 : decode cX9_guess 53 = .ok (.goto 7, 3) := by decide +kernel
theorem dX9_guess_56 : decode cX9_guess 56 = .ok (.aload_n 0, 1) := by decide +kernel
theorem dX9_guess_57 : decode cX9_guess 57 = .ok (.getfield 266, 3) := by decide +kernel
theorem dX9_guess_60 : decode cX9_guess 60 = .ok (.imul, 1) := by decide +kernel
theorem dX9_guess_61 : decode cX9_guess 61 = .ok (.aload_n 0, 1) := by decide +kernel
theorem dX9_guess_62 : decode cX9_guess 62 = .ok (.getfield 263, 3) := by decide +kernel
theorem dX9_guess_65 : decode cX9_guess 65 = .ok (.idiv, 1) := by decide +kernel
theorem dX9_guess_66 : decode cX9_guess 66 = .ok (.ireturn, 1) := by decide +kernel
theorem dX9_follows_0 : decode cX9_follows 0 = .ok (.iload_n 3, 1) := by decide +kernel
theorem dX9_follows_1 : decode cX9_follows 1 = .ok (.ifCond .ne 41, 3) := by decide +kernel
theorem dX9_follows_4 : decode cX9_follows 4 = .ok (.iload 4, 2) := by decide +kernel
theorem dX9_follows_6 : decode cX9_follows 6 = .ok (.iconst 1, 1) := by decide +kernel
theorem dX9_follows_7 : decode cX9_follows 7 = .ok (.if_icmp .ne 17, 3) := by decide +kernel
theorem dX9_follows_10 : decode cX9_follows 10 = .ok (.ldc2_w 207, 3) := by decide +kernel
theorem dX9_follows_13 : decode cX9_follows 13 = .ok (.aload_n 0, 1) := by decide +kernel
theorem dX9_follows_14 : decode cX9_follows 14 = .ok (.iload_n 1, 1) := by decide +kernel
theorem dX9_follows_15 : decode cX9_follows 15 = .ok (.iload_n 2, 1) := by decide +kernel
theorem dX9_follows_16 : decode cX9_follows 16 = .ok (.invokevirtual 191, 3) := by decide +kernel
theorem dX9_follows_19 : decode cX9_follows 19 = .ok (.i2l, 1) := by decide +kernel
theorem dX9_follows_20 : decode cX9_follows 20 = .ok (.lmul, 1) := by decide +kernel
theorem dX9_follows_21 : decode cX9_follows 21 = .ok (.goto 20, 3) := by decide +kernel
theorem dX9_follows_24 : decode cX9_follows 24 = .ok (.aload_n 0, 1) := by decide +kernel
theorem dX9_follows_25 : decode cX9_follows 25 = .ok (.iload_n 1, 1) := by decide +kernel
theorem dX9_follows_26 : decode cX9_follows 26 = .ok (.iconst 0, 1) := by decide +kernel
theorem dX9_follows_27 : decode cX9_follows 27 = .ok (.invokevirtual 209, 3) := by decide +kernel
theorem dX9_follows_30 : decode cX9_follows 30 = .ok (.iload_n 2, 1) := by decide +kernel
theorem dX9_follows_31 : decode cX9_follows 31 = .ok (.if_icmp .ne 9, 3) := by decide +kernel
theorem dX9_follows_34 : decode cX9_follows 34 = .ok (.ldc2_w 273, 3) := by decide +kernel
theorem dX9_follows_37 : decode cX9_follows 37 = .ok (.goto 4, 3) := by decide +kernel
theorem dX9_follows_40 : decode cX9_follows 40 = .ok (.lconst 0, 1) := by decide +kernel
theorem dX9_follows_41 : decode cX9_follows 41 = .ok (.lreturn, 1) := by decide +kernel
theorem dX9_follows_42 : decode cX9_follows 42 = .ok (.aload_n 0, 1) := by decide +kernel
theorem dX9_follows_43 : decode cX9_follows 43 = .ok (.iload_n 1, 1) := by decide +kernel
theorem dX9_follows_44 : decode cX9_follows 44 = .ok (.invokevirtual 223, 3) := by decide +kernel
theorem dX9_follows_47 : decode cX9_follows 47 = .ok (.istore 5, 2) := by decide +kernel
theorem dX9_follows_49 : decode cX9_follows 49 = .ok (.iconst 4, 1) := by decide +kernel
theorem dX9_follows_50 : decode cX9_follows 50 = .ok (.iload_n 3, 1) := by decide +kernel
theorem dX9_follows_51 : decode cX9_follows 51 = .ok (.imul, 1) := by decide +kernel
theorem dX9_follows_52 : decode cX9_follows 52 = .ok (.istore 6, 2) := by decide +kernel
theorem dX9_follows_54 : decode cX9_follows 54 = .ok (.iconst 0, 1) := by decide +kernel
theorem dX9_follows_55 : decode cX9_follows 55 = .ok (.istore 7, 2) := by decide +kernel
theorem dX9_follows_57 : decode cX9_follows 57 = .ok (.iload 7, 2) := by decide +kernel
theorem dX9_follows_59 : decode cX9_follows 59 = .ok (.aload_n 0, 1) := by decide +kernel
theorem dX9_follows_60 : decode cX9_follows 60 = .ok (.getfield 99, 3) := by decide +kernel
theorem dX9_follows_63 : decode cX9_follows 63 = .ok (.if_icmp .ge 26, 3) := by decide +kernel
theorem dX9_follows_66 : decode cX9_follows 66 = .ok (.aload_n 0, 1) := by decide +kernel
theorem dX9_follows_67 : decode cX9_follows 67 = .ok (.getfield 58, 3) := by decide +kernel
theorem dX9_follows_70 : decode cX9_follows 70 = .ok (.iload 6, 2) := by decide +kernel
theorem dX9_follows_72 : decode cX9_follows 72 = .ok (.iload 7, 2) := by decide +kernel
theorem dX9_follows_74 : decode cX9_follows 74 = .ok (.iadd, 1) := by decide +kernel
theorem dX9_follows_75 : decode cX9_follows 75 = .ok (.aload_n 0, 1) := by decide +kernel
theorem dX9_follows_76 : decode cX9_follows 76 = .ok (.getfield 55, 3) := by decide +kernel
theorem dX9_follows_79 : decode cX9_follows 79 = .ok (.iload 7, 2) := by decide +kernel
theorem dX9_follows_81 : decode cX9_follows 81 = .ok (.iaload, 1) := by decide +kernel
theorem dX9_follows_82 : decode cX9_follows 82 = .ok (.iastore, 1) := by decide +kernel
theorem dX9_follows_83 : decode cX9_follows 83 = .ok (.iinc 7 1, 3) := by decide +kernel
theorem dX9_follows_86 : decode cX9_follows 86 = .ok (.goto (-29), 3) := by decide +kernel
theorem dX9_follows_89 : decode cX9_follows 89 = .ok (.aload_n 0, 1) := by decide +kernel
theorem dX9_follows_90 : decode cX9_follows 90 = .ok (.getfield 46, 3) := by decide +kernel
theorem dX9_follows_93 : decode cX9_follows 93 = .ok (.iload_n 1, 1) := by decide +kernel
theorem dX9_follows_94 : decode cX9_follows 94 = .ok (.dup2, 1) := by decide +kernel
theorem dX9_follows_95 : decode cX9_follows 95 = .ok (.iaload, 1) := by decide +kernel
theorem dX9_follows_96 : decode cX9_follows 96 = .ok (.iconst 1, 1) := by decide +kernel
theorem dX9_follows_97 : decode cX9_follows 97 = .ok (.iadd, 1) := by decide +kernel
theorem dX9_follows_98 : decode cX9_follows 98 = .ok (.iastore, 1) := by decide +kernel
theorem dX9_follows_99 : decode cX9_follows 99 = .ok (.iload 5, 2) := by decide +kernel
theorem dX9_follows_101 : decode cX9_follows 101 = .ok (.ifCond .eq 15, 3) := by decide +kernel
theorem dX9_follows_104 : decode cX9_follows 104 = .ok (.aload_n 0, 1) := by decide +kernel
theorem dX9_follows_105 : decode cX9_follows 105 = .ok (.getfield 9, 3) := by decide +kernel
theorem dX9_follows_108 : decode cX9_follows 108 = .ok (.bipush 12, 2) := by decide +kernel
theorem dX9_follows_110 : decode cX9_follows 110 = .ok (.iload_n 1, 1) := by decide +kernel
theorem dX9_follows_111 : decode cX9_follows 111 = .ok (.iadd, 1) := by decide +kernel
theorem dX9_follows_112 : decode cX9_follows 112 = .ok (.iaload, 1) := by decide +kernel
theorem dX9_follows_113 : decode cX9_follows 113 = .ok (.ifCond .le 17, 3) := by decide +kernel
theorem dX9_follows_116 : decode cX9_follows 116 = .ok (.aload_n 0, 1) := by decide +kernel
theorem dX9_follows_117 : decode cX9_follows 117 = .ok (.iload_n 1, 1) := by decide +kernel
theorem dX9_follows_118 : decode cX9_follows 118 = .ok (.iload_n 2, 1) := by decide +kernel
theorem dX9_follows_119 : decode cX9_follows 119 = .ok (.iload_n 3, 1) := by decide +kernel
theorem dX9_follows_120 : decode cX9_follows 120 = .ok (.iconst 1, 1) := by decide +kernel
theorem dX9_follows_121 : decode cX9_follows 121 = .ok (.isub, 1) := by decide +kernel
theorem dX9_follows_122 : decode cX9_follows 122 = .ok (.iload 4, 2) := by decide +kernel
theorem dX9_follows_124 : decode cX9_follows 124 = .ok (.invokevirtual 275, 3) := by decide +kernel
theorem dX9_follows_127 : decode cX9_follows 127 = .ok (.goto 4, 3) := by decide +kernel
theorem dX9_follows_130 : decode cX9_follows 130 = .ok (.lconst 0, 1) := by decide +kernel
theorem dX9_follows_131 : decode cX9_follows 131 = .ok (.lstore 7, 2) := by decide +kernel
theorem dX9_follows_133 : decode cX9_follows 133 = .ok (.iload 5, 2) := by decide +kernel
theorem dX9_follows_135 : decode cX9_follows 135 = .ok (.ifCond .le 18, 3) := by decide +kernel
theorem dX9_follows_138 : decode cX9_follows 138 = .ok (.lload 7, 2) := by decide +kernel
theorem dX9_follows_140 : decode cX9_follows 140 = .ok (.aload_n 0, 1) := by decide +kernel
theorem dX9_follows_141 : decode cX9_follows 141 = .ok (.getfield 9, 3) := by decide +kernel
theorem dX9_follows_144 : decode cX9_follows 144 = .ok (.bipush 12, 2) := by decide +kernel
theorem dX9_follows_146 : decode cX9_follows 146 = .ok (.iload_n 1, 1) := by decide +kernel
theorem dX9_follows_147 : decode cX9_follows 147 = .ok (.iadd, 1) := by decide +kernel
theorem dX9_follows_148 : decode cX9_follows 148 = .ok (.iaload, 1) := by decide +kernel
theorem dX9_follows_149 : decode cX9_follows 149 = .ok (.i2l, 1) := by decide +kernel
theorem dX9_follows_150 : decode cX9_follows 150 = .ok (.lmul, 1) := by decide +kernel
theorem dX9_follows_151 : decode cX9_follows 151 = .ok (.lstore 7, 2) := by decide +kernel
theorem dX9_follows_153 : decode cX9_follows 153 = .ok (.iconst 0, 1) := by decide +kernel
theorem dX9_follows_154 : decode cX9_follows 154 = .ok (.istore 9, 2) := by decide +kernel
theorem dX9_follows_156 : decode cX9_follows 156 = .ok (.iload 9, 2) := by decide +kernel
theorem dX9_follows_158 : decode cX9_follows 158 = .ok (.aload_n 0, 1) := by decide +kernel
theorem dX9_follows_159 : decode cX9_follows 159 = .ok (.getfield 99, 3) := by decide +kernel
theorem dX9_follows_162 : decode cX9_follows 162 = .ok (.if_icmp .ge 130, 3) := by decide +kernel
theorem dX9_follows_165 : decode cX9_follows 165 = .ok (.iload 5, 2) := by decide +kernel
theorem dX9_follows_167 : decode cX9_follows 167 = .ok (.ifCond .le 125, 3) := by decide +kernel
theorem dX9_follows_170 : decode cX9_follows 170 = .ok (.aload_n 0, 1) := by decide +kernel
theorem dX9_follows_171 : decode cX9_follows 171 = .ok (.getfield 58, 3) := by decide +kernel
theorem dX9_follows_174 : decode cX9_follows 174 = .ok (.iload 6, 2) := by decide +kernel
theorem dX9_follows_176 : decode cX9_follows 176 = .ok (.iload 9, 2) := by decide +kernel
theorem dX9_follows_178 : decode cX9_follows 178 = .ok (.iadd, 1) := by decide +kernel
theorem dX9_follows_179 : decode cX9_follows 179 = .ok (.iaload, 1) := by decide +kernel
theorem dX9_follows_180 : decode cX9_follows 180 = .ok (.ifCond .ne 6, 3) := by decide +kernel
theorem dX9_follows_183 : decode cX9_follows 183 = .ok (.goto 103, 3) := by decide +kernel
theorem dX9_follows_186 : decode cX9_follows 186 = .ok (.bipush 23, 2) := by decide +kernel
theorem dX9_follows_188 : decode cX9_follows 188 = .ok (.bipush 12, 2) := by decide +kernel
theorem dX9_follows_190 : decode cX9_follows 190 = .ok (.iload_n 1, 1) := by decide +kernel
theorem dX9_follows_191 : decode cX9_follows 191 = .ok (.imul, 1) := by decide +kernel
theorem dX9_follows_192 : decode cX9_follows 192 = .ok (.iadd, 1) := by decide +kernel
theorem dX9_follows_193 : decode cX9_follows 193 = .ok (.iload 9, 2) := by decide +kernel
theorem dX9_follows_195 : decode cX9_follows 195 = .ok (.iadd, 1) := by decide +kernel
theorem dX9_follows_196 : decode cX9_follows 196 = .ok (.istore 10, 2) := by decide +kernel
theorem dX9_follows_198 : decode cX9_follows 198 = .ok (.aload_n 0, 1) := by decide +kernel
theorem dX9_follows_199 : decode cX9_follows 199 = .ok (.getfield 9, 3) := by decide +kernel
theorem dX9_follows_202 : decode cX9_follows 202 = .ok (.iload 10, 2) := by decide +kernel
theorem dX9_follows_204 : decode cX9_follows 204 = .ok (.iaload, 1) := by decide +kernel
theorem dX9_follows_205 : decode cX9_follows 205 = .ok (.istore 11, 2) := by decide +kernel
theorem dX9_follows_207 : decode cX9_follows 207 = .ok (.aload_n 0, 1) := by decide +kernel
theorem dX9_follows_208 : decode cX9_follows 208 = .ok (.getfield 9, 3) := by decide +kernel
theorem dX9_follows_211 : decode cX9_follows 211 = .ok (.iload 10, 2) := by decide +kernel
theorem dX9_follows_213 : decode cX9_follows 213 = .ok (.dup2, 1) := by decide +kernel
theorem dX9_follows_214 : decode cX9_follows 214 = .ok (.iaload, 1) := by decide +kernel
theorem dX9_follows_215 : decode cX9_follows 215 = .ok (.iload 11, 2) := by decide +kernel
theorem dX9_follows_217 : decode cX9_follows 217 = .ok (.ldc 222, 2) := by decide +kernel
theorem dX9_follows_219 : decode cX9_follows 219 = .ok (.if_icmp .ge 7, 3) := by decide +kernel
theorem dX9_follows_222 : decode cX9_follows 222 = .ok (.iconst 1, 1) := by decide +kernel
theorem dX9_follows_223 : decode cX9_follows 223 = .ok (.goto 4, 3) := by decide +kernel
theorem dX9_follows_226 : decode cX9_follows 226 = .ok (.iconst 0, 1) := by decide +kernel
theorem dX9_follows_227 : decode cX9_follows 227 = .ok (.iadd, 1) := by decide +kernel
theorem dX9_follows_228 : decode cX9_follows 228 = .ok (.iastore, 1) := by decide +kernel
theorem dX9_follows_229 : decode cX9_follows 229 = .ok (.aload_n 0, 1) := by decide +kernel
theorem dX9_follows_230 : decode cX9_follows 230 = .ok (.getfield 49, 3) := by decide +kernel
theorem dX9_follows_233 : decode cX9_follows 233 = .ok (.iload_n 1, 1) := by decide +kernel
theorem dX9_follows_234 : decode cX9_follows 234 = .ok (.dup2, 1) := by decide +kernel
theorem dX9_follows_235 : decode cX9_follows 235 = .ok (.iaload, 1) := by decide +kernel
theorem dX9_follows_236 : decode cX9_follows 236 = .ok (.iconst 1, 1) := by decide +kernel
theorem dX9_follows_237 : decode cX9_follows 237 = .ok (.iadd, 1) := by decide +kernel
theorem dX9_follows_238 : decode cX9_follows 238 = .ok (.iastore, 1) := by decide +kernel
theorem dX9_follows_239 : decode cX9_follows 239 = .ok (.lload 7, 2) := by decide +kernel
theorem dX9_follows_241 : decode cX9_follows 241 = .ok (.aload_n 0, 1) := by decide +kernel
theorem dX9_follows_242 : decode cX9_follows 242 = .ok (.getfield 58, 3) := by decide +kernel
theorem dX9_follows_245 : decode cX9_follows 245 = .ok (.iload 6, 2) := by decide +kernel
theorem dX9_follows_247 : decode cX9_follows 247 = .ok (.iload 9, 2) := by decide +kernel
theorem dX9_follows_249 : decode cX9_follows 249 = .ok (.iadd, 1) := by decide +kernel
theorem dX9_follows_250 : decode cX9_follows 250 = .ok (.iaload, 1) := by decide +kernel
theorem dX9_follows_251 : decode cX9_follows 251 = .ok (.i2l, 1) := by decide +kernel
theorem dX9_follows_252 : decode cX9_follows 252 = .ok (.aload_n 0, 1) := by decide +kernel
theorem dX9_follows_253 : decode cX9_follows 253 = .ok (.iload_n 1, 1) := by decide +kernel
theorem dX9_follows_254 : decode cX9_follows 254 = .ok (.iload_n 2, 1) := by decide +kernel
theorem dX9_follows_255 : decode cX9_follows 255 = .ok (.iload_n 3, 1) := by decide +kernel
theorem dX9_follows_256 : decode cX9_follows 256 = .ok (.iconst 1, 1) := by decide +kernel
theorem dX9_follows_257 : decode cX9_follows 257 = .ok (.isub, 1) := by decide +kernel
theorem dX9_follows_258 : decode cX9_follows 258 = .ok (.iload 4, 2) := by decide +kernel
theorem dX9_follows_260 : decode cX9_follows 260 = .ok (.invokevirtual 275, 3) := by decide +kernel
theorem dX9_follows_263 : decode cX9_follows 263 = .ok (.lmul, 1) := by decide +kernel
theorem dX9_follows_264 : decode cX9_follows 264 = .ok (.ladd, 1) := by decide +kernel
theorem dX9_follows_265 : decode cX9_follows 265 = .ok (.lstore 7, 2) := by decide +kernel
theorem dX9_follows_267 : decode cX9_follows 267 = .ok (.aload_n 0, 1) := by decide +kernel
theorem dX9_follows_268 : decode cX9_follows 268 = .ok (.getfield 49, 3) := by decide +kernel
theorem dX9_follows_271 : decode cX9_follows 271 = .ok (.iload_n 1, 1) := by decide +kernel
theorem dX9_follows_272 : decode cX9_follows 272 = .ok (.dup2, 1) := by decide +kernel
theorem dX9_follows_273 : decode cX9_follows 273 = .ok (.iaload, 1) := by decide +kernel
theorem dX9_follows_274 : decode cX9_follows 274 = .ok (.iconst 1, 1) := by decide +kernel
theorem dX9_follows_275 : decode cX9_follows 275 = .ok (.isub, 1) := by decide +kernel
theorem dX9_follows_276 : decode cX9_follows 276 = .ok (.iastore, 1) := by decide +kernel
theorem dX9_follows_277 : decode cX9_follows 277 = .ok (.aload_n 0, 1) := by decide +kernel
theorem dX9_follows_278 : decode cX9_follows 278 = .ok (.getfield 9, 3) := by decide +kernel
theorem dX9_follows_281 : decode cX9_follows 281 = .ok (.iload 10, 2) := by decide +kernel
theorem dX9_follows_283 : decode cX9_follows 283 = .ok (.iload 11, 2) := by decide +kernel
theorem dX9_follows_285 : decode cX9_follows 285 = .ok (.iastore, 1) := by decide +kernel
theorem dX9_follows_286 : decode cX9_follows 286 = .ok (.iinc 9 1, 3) := by decide +kernel
theorem dX9_follows_289 : decode cX9_follows 289 = .ok (.goto (-133), 3) := by decide +kernel
theorem dX9_follows_292 : decode cX9_follows 292 = .ok (.aload_n 0, 1) := by decide +kernel
theorem dX9_follows_293 : decode cX9_follows 293 = .ok (.getfield 46, 3) := by decide +kernel
theorem dX9_follows_296 : decode cX9_follows 296 = .ok (.iload_n 1, 1) := by decide +kernel
theorem dX9_follows_297 : decode cX9_follows 297 = .ok (.dup2, 1) := by decide +kernel
theorem dX9_follows_298 : decode cX9_follows 298 = .ok (.iaload, 1) := by decide +kernel
theorem dX9_follows_299 : decode cX9_follows 299 = .ok (.iconst 1, 1) := by decide +kernel
theorem dX9_follows_300 : decode cX9_follows 300 = .ok (.isub, 1) := by decide +kernel
theorem dX9_follows_301 : decode cX9_follows 301 = .ok (.iastore, 1) := by decide +kernel
theorem dX9_follows_302 : decode cX9_follows 302 = .ok (.iload 5, 2) := by decide +kernel
theorem dX9_follows_304 : decode cX9_follows 304 = .ok (.ifCond .ne 8, 3) := by decide +kernel
theorem dX9_follows_307 : decode cX9_follows 307 = .ok (.lload 7, 2) := by decide +kernel
theorem dX9_follows_309 : decode cX9_follows 309 = .ok (.goto 9, 3) := by decide +kernel
theorem dX9_follows_312 : decode cX9_follows 312 = .ok (.lload 7, 2) := by decide +kernel
theorem dX9_follows_314 : decode cX9_follows 314 = .ok (.iload 5, 2) := by decide +kernel
theorem dX9_follows_316 : decode cX9_follows 316 = .ok (.i2l, 1) := by decide +kernel
theorem dX9_follows_317 : decode cX9_follows 317 = .ok (.ldiv, 1) := by decide +kernel
theorem dX9_follows_318 : decode cX9_follows 318 = .ok (.lreturn, 1) := by decide +kernel
theorem dX9_odds_0 : decode cX9_odds 0 = .ok (.aload_n 0, 1) := by decide +kernel
theorem dX9_odds_1 : decode cX9_odds 1 = .ok (.iload_n 1, 1) := by decide +kernel
theorem dX9_odds_2 : decode cX9_odds 2 = .ok (.invokevirtual 186, 3) := by decide +kernel
theorem dX9_odds_5 : decode cX9_odds 5 = .ok (.ifCond .eq 34, 3) := by decide +kernel
theorem dX9_odds_8 : decode cX9_odds 8 = .ok (.aload_n 0, 1) := by decide +kernel
theorem dX9_odds_9 : decode cX9_odds 9 = .ok (.iload_n 2, 1) := by decide +kernel
theorem dX9_odds_10 : decode cX9_odds 10 = .ok (.invokevirtual 111, 3) := by decide +kernel
theorem dX9_odds_13 : decode cX9_odds 13 = .ok (.ifCond .eq 26, 3) := by decide +kernel
theorem dX9_odds_16 : decode cX9_odds 16 = .ok (.iload_n 3, 1) := by decide +kernel
theorem dX9_odds_17 : decode cX9_odds 17 = .ok (.i2l, 1) := by decide +kernel
theorem dX9_odds_18 : decode cX9_odds 18 = .ok (.lconst 0, 1) := by decide +kernel
theorem dX9_odds_19 : decode cX9_odds 19 = .ok (.ldc2_w 279, 3) := by decide +kernel
theorem dX9_odds_22 : decode cX9_odds 22 = .ok (.invokestatic 102, 3) := by decide +kernel
theorem dX9_odds_25 : decode cX9_odds 25 = .ok (.ifCond .eq 14, 3) := by decide +kernel
theorem dX9_odds_28 : decode cX9_odds 28 = .ok (.iload 4, 2) := by decide +kernel
theorem dX9_odds_30 : decode cX9_odds 30 = .ok (.i2l, 1) := by decide +kernel
theorem dX9_odds_31 : decode cX9_odds 31 = .ok (.lconst 0, 1) := by decide +kernel
theorem dX9_odds_32 : decode cX9_odds 32 = .ok (.lconst 1, 1) := by decide +kernel
theorem dX9_odds_33 : decode cX9_odds 33 = .ok (.invokestatic 102, 3) := by decide +kernel
theorem dX9_odds_36 : decode cX9_odds 36 = .ok (.ifCond .ne 5, 3) := by decide +kernel
theorem dX9_odds_39 : decode cX9_odds 39 = .ok (.iconst (-1), 1) := by decide +kernel
theorem dX9_odds_40 : decode cX9_odds 40 = .ok (.ireturn, 1) := by decide +kernel
theorem dX9_odds_41 : decode cX9_odds 41 = .ok (.aload_n 0, 1) := by decide +kernel
theorem dX9_odds_42 : decode cX9_odds 42 = .ok (.getfield 99, 3) := by decide +kernel
theorem dX9_odds_45 : decode cX9_odds 45 = .ok (.iconst 4, 1) := by decide +kernel
theorem dX9_odds_46 : decode cX9_odds 46 = .ok (.if_icmp .le 6, 3) := by decide +kernel
theorem dX9_odds_49 : decode cX9_odds 49 = .ok (.bipush (-4), 2) := by decide +kernel
theorem dX9_odds_51 : decode cX9_odds 51 = .ok (.ireturn, 1) := by decide +kernel
theorem dX9_odds_52 : decode cX9_odds 52 = .ok (.aload_n 0, 1) := by decide +kernel
theorem dX9_odds_53 : decode cX9_odds 53 = .ok (.iload_n 1, 1) := by decide +kernel
theorem dX9_odds_54 : decode cX9_odds 54 = .ok (.iload_n 2, 1) := by decide +kernel
theorem dX9_odds_55 : decode cX9_odds 55 = .ok (.iload_n 3, 1) := by decide +kernel
theorem dX9_odds_56 : decode cX9_odds 56 = .ok (.iload 4, 2) := by decide +kernel
theorem dX9_odds_58 : decode cX9_odds 58 = .ok (.invokevirtual 275, 3) := by decide +kernel
theorem dX9_odds_61 : decode cX9_odds 61 = .ok (.l2i, 1) := by decide +kernel
theorem dX9_odds_62 : decode cX9_odds 62 = .ok (.ireturn, 1) := by decide +kernel
theorem dX9_firstCounted_0 : decode cX9_firstCounted 0 = .ok (.iconst 0, 1) := by decide +kernel
theorem dX9_firstCounted_1 : decode cX9_firstCounted 1 = .ok (.istore_n 1, 1) := by decide +kernel
theorem dX9_firstCounted_2 : decode cX9_firstCounted 2 = .ok (.iconst 1, 1) := by decide +kernel
theorem dX9_firstCounted_3 : decode cX9_firstCounted 3 = .ok (.istore_n 2, 1) := by decide +kernel
theorem dX9_firstCounted_4 : decode cX9_firstCounted 4 = .ok (.iload_n 2, 1) := by decide +kernel
theorem dX9_firstCounted_5 : decode cX9_firstCounted 5 = .ok (.aload_n 0, 1) := by decide +kernel
theorem dX9_firstCounted_6 : decode cX9_firstCounted 6 = .ok (.getfield 99, 3) := by decide +kernel
theorem dX9_firstCounted_9 : decode cX9_firstCounted 9 = .ok (.if_icmp .ge 30, 3) := by decide +kernel
theorem dX9_firstCounted_12 : decode cX9_firstCounted 12 = .ok (.aload_n 0, 1) := by decide +kernel
theorem dX9_firstCounted_13 : decode cX9_firstCounted 13 = .ok (.getfield 61, 3) := by decide +kernel
theorem dX9_firstCounted_16 : decode cX9_firstCounted 16 = .ok (.iload_n 2, 1) := by decide +kernel
theorem dX9_firstCounted_17 : decode cX9_firstCounted 17 = .ok (.iaload, 1) := by decide +kernel
theorem dX9_firstCounted_18 : decode cX9_firstCounted 18 = .ok (.aload_n 0, 1) := by decide +kernel
theorem dX9_firstCounted_19 : decode cX9_firstCounted 19 = .ok (.getfield 61, 3) := by decide +kernel
theorem dX9_firstCounted_22 : decode cX9_firstCounted 22 = .ok (.iload_n 1, 1) := by decide +kernel
theorem dX9_firstCounted_23 : decode cX9_firstCounted 23 = .ok (.iaload, 1) := by decide +kernel
theorem dX9_firstCounted_24 : decode cX9_firstCounted 24 = .ok (.if_icmp .le 7, 3) := by decide +kernel
theorem dX9_firstCounted_27 : decode cX9_firstCounted 27 = .ok (.iload_n 2, 1) := by decide +kernel
theorem dX9_firstCounted_28 : decode cX9_firstCounted 28 = .ok (.goto 4, 3) := by decide +kernel
theorem dX9_firstCounted_31 : decode cX9_firstCounted 31 = .ok (.iload_n 1, 1) := by decide +kernel
theorem dX9_firstCounted_32 : decode cX9_firstCounted 32 = .ok (.istore_n 1, 1) := by decide +kernel
theorem dX9_firstCounted_33 : decode cX9_firstCounted 33 = .ok (.iinc 2 1, 3) := by decide +kernel
theorem dX9_firstCounted_36 : decode cX9_firstCounted 36 = .ok (.goto (-32), 3) := by decide +kernel
theorem dX9_firstCounted_39 : decode cX9_firstCounted 39 = .ok (.iload_n 1, 1) := by decide +kernel
theorem dX9_firstCounted_40 : decode cX9_firstCounted 40 = .ok (.ireturn, 1) := by decide +kernel
theorem dX9_after_0 : decode cX9_after 0 = .ok (.aload_n 0, 1) := by decide +kernel
theorem dX9_after_1 : decode cX9_after 1 = .ok (.iload_n 1, 1) := by decide +kernel
theorem dX9_after_2 : decode cX9_after 2 = .ok (.invokevirtual 186, 3) := by decide +kernel
theorem dX9_after_5 : decode cX9_after 5 = .ok (.ifCond .ne 5, 3) := by decide +kernel
theorem dX9_after_8 : decode cX9_after 8 = .ok (.iconst (-1), 1) := by decide +kernel
theorem dX9_after_9 : decode cX9_after 9 = .ok (.ireturn, 1) := by decide +kernel
theorem dX9_after_10 : decode cX9_after 10 = .ok (.aload_n 0, 1) := by decide +kernel
theorem dX9_after_11 : decode cX9_after 11 = .ok (.getfield 49, 3) := by decide +kernel
theorem dX9_after_14 : decode cX9_after 14 = .ok (.iload_n 1, 1) := by decide +kernel
theorem dX9_after_15 : decode cX9_after 15 = .ok (.iaload, 1) := by decide +kernel
theorem dX9_after_16 : decode cX9_after 16 = .ok (.ifCond .ne 6, 3) := by decide +kernel
theorem dX9_after_19 : decode cX9_after 19 = .ok (.bipush (-2), 2) := by decide +kernel
theorem dX9_after_21 : decode cX9_after 21 = .ok (.ireturn, 1) := by decide +kernel
theorem dX9_after_22 : decode cX9_after 22 = .ok (.aload_n 0, 1) := by decide +kernel
theorem dX9_after_23 : decode cX9_after 23 = .ok (.getfield 49, 3) := by decide +kernel
theorem dX9_after_26 : decode cX9_after 26 = .ok (.iload_n 1, 1) := by decide +kernel
theorem dX9_after_27 : decode cX9_after 27 = .ok (.iaload, 1) := by decide +kernel
theorem dX9_after_28 : decode cX9_after 28 = .ok (.sipush 200, 3) := by decide +kernel
theorem dX9_after_31 : decode cX9_after 31 = .ok (.if_icmp .le 6, 3) := by decide +kernel
theorem dX9_after_34 : decode cX9_after 34 = .ok (.bipush (-5), 2) := by decide +kernel
theorem dX9_after_36 : decode cX9_after 36 = .ok (.ireturn, 1) := by decide +kernel
theorem dX9_after_37 : decode cX9_after 37 = .ok (.iconst 0, 1) := by decide +kernel
theorem dX9_after_38 : decode cX9_after 38 = .ok (.istore_n 2, 1) := by decide +kernel
theorem dX9_after_39 : decode cX9_after 39 = .ok (.iload_n 2, 1) := by decide +kernel
theorem dX9_after_40 : decode cX9_after 40 = .ok (.aload_n 0, 1) := by decide +kernel
theorem dX9_after_41 : decode cX9_after 41 = .ok (.getfield 99, 3) := by decide +kernel
theorem dX9_after_44 : decode cX9_after 44 = .ok (.if_icmp .ge 16, 3) := by decide +kernel
theorem dX9_after_47 : decode cX9_after 47 = .ok (.aload_n 0, 1) := by decide +kernel
theorem dX9_after_48 : decode cX9_after 48 = .ok (.getfield 61, 3) := by decide +kernel
theorem dX9_after_51 : decode cX9_after 51 = .ok (.iload_n 2, 1) := by decide +kernel
theorem dX9_after_52 : decode cX9_after 52 = .ok (.iconst 0, 1) := by decide +kernel
theorem dX9_after_53 : decode cX9_after 53 = .ok (.iastore, 1) := by decide +kernel
theorem dX9_after_54 : decode cX9_after 54 = .ok (.iinc 2 1, 3) := by decide +kernel
theorem dX9_after_57 : decode cX9_after 57 = .ok (.goto (-18), 3) := by decide +kernel
theorem dX9_after_60 : decode cX9_after 60 = .ok (.aload_n 0, 1) := by decide +kernel
theorem dX9_after_61 : decode cX9_after 61 = .ok (.invokevirtual 281, 3) := by decide +kernel
theorem dX9_after_64 : decode cX9_after 64 = .ok (.istore_n 2, 1) := by decide +kernel
theorem dX9_after_65 : decode cX9_after 65 = .ok (.iconst 0, 1) := by decide +kernel
theorem dX9_after_66 : decode cX9_after 66 = .ok (.istore_n 3, 1) := by decide +kernel
theorem dX9_after_67 : decode cX9_after 67 = .ok (.iconst 0, 1) := by decide +kernel
theorem dX9_after_68 : decode cX9_after 68 = .ok (.istore 4, 2) := by decide +kernel
theorem dX9_after_70 : decode cX9_after 70 = .ok (.iload 4, 2) := by decide +kernel
theorem dX9_after_72 : decode cX9_after 72 = .ok (.aload_n 0, 1) := by decide +kernel
theorem dX9_after_73 : decode cX9_after 73 = .ok (.getfield 49, 3) := by decide +kernel
theorem dX9_after_76 : decode cX9_after 76 = .ok (.iload_n 1, 1) := by decide +kernel
theorem dX9_after_77 : decode cX9_after 77 = .ok (.iaload, 1) := by decide +kernel
theorem dX9_after_78 : decode cX9_after 78 = .ok (.if_icmp .ge 55, 3) := by decide +kernel
theorem dX9_after_81 : decode cX9_after 81 = .ok (.aload_n 0, 1) := by decide +kernel
theorem dX9_after_82 : decode cX9_after 82 = .ok (.getfield 61, 3) := by decide +kernel
theorem dX9_after_85 : decode cX9_after 85 = .ok (.aload_n 0, 1) := by decide +kernel
theorem dX9_after_86 : decode cX9_after 86 = .ok (.getfield 52, 3) := by decide +kernel
theorem dX9_after_89 : decode cX9_after 89 = .ok (.sipush 200, 3) := by decide +kernel
theorem dX9_after_92 : decode cX9_after 92 = .ok (.iload_n 1, 1) := by decide +kernel
theorem dX9_after_93 : decode cX9_after 93 = .ok (.imul, 1) := by decide +kernel
theorem dX9_after_94 : decode cX9_after 94 = .ok (.iload 4, 2) := by decide +kernel
theorem dX9_after_96 : decode cX9_after 96 = .ok (.iadd, 1) := by decide +kernel
theorem dX9_after_97 : decode cX9_after 97 = .ok (.iaload, 1) := by decide +kernel
theorem dX9_after_98 : decode cX9_after 98 = .ok (.dup2, 1) := by decide +kernel
theorem dX9_after_99 : decode cX9_after 99 = .ok (.iaload, 1) := by decide +kernel
theorem dX9_after_100 : decode cX9_after 100 = .ok (.iconst 1, 1) := by decide +kernel
theorem dX9_after_101 : decode cX9_after 101 = .ok (.iadd, 1) := by decide +kernel
theorem dX9_after_102 : decode cX9_after 102 = .ok (.iastore, 1) := by decide +kernel
theorem dX9_after_103 : decode cX9_after 103 = .ok (.aload_n 0, 1) := by decide +kernel
theorem dX9_after_104 : decode cX9_after 104 = .ok (.invokevirtual 281, 3) := by decide +kernel
theorem dX9_after_107 : decode cX9_after 107 = .ok (.istore 5, 2) := by decide +kernel
theorem dX9_after_109 : decode cX9_after 109 = .ok (.iload 5, 2) := by decide +kernel
theorem dX9_after_111 : decode cX9_after 111 = .ok (.iload_n 2, 1) := by decide +kernel
theorem dX9_after_112 : decode cX9_after 112 = .ok (.if_icmp .ne 7, 3) := by decide +kernel
theorem dX9_after_115 : decode cX9_after 115 = .ok (.iload_n 3, 1) := by decide +kernel
theorem dX9_after_116 : decode cX9_after 116 = .ok (.goto 7, 3) := by decide +kernel
theorem dX9_after_119 : decode cX9_after 119 = .ok (.iload 4, 2) := by decide +kernel
theorem dX9_after_121 : decode cX9_after 121 = .ok (.iconst 1, 1) := by decide +kernel
theorem dX9_after_122 : decode cX9_after 122 = .ok (.iadd, 1) := by decide +kernel
theorem dX9_after_123 : decode cX9_after 123 = .ok (.istore_n 3, 1) := by decide +kernel
theorem dX9_after_124 : decode cX9_after 124 = .ok (.iload 5, 2) := by decide +kernel
theorem dX9_after_126 : decode cX9_after 126 = .ok (.istore_n 2, 1) := by decide +kernel
theorem dX9_after_127 : decode cX9_after 127 = .ok (.iinc 4 1, 3) := by decide +kernel
theorem dX9_after_130 : decode cX9_after 130 = .ok (.goto (-60), 3) := by decide +kernel
theorem dX9_after_133 : decode cX9_after 133 = .ok (.iload_n 3, 1) := by decide +kernel
theorem dX9_after_134 : decode cX9_after 134 = .ok (.ireturn, 1) := by decide +kernel
theorem dX9_shop_0 : decode cX9_shop 0 = .ok (.aload_n 0, 1) := by decide +kernel
theorem dX9_shop_1 : decode cX9_shop 1 = .ok (.iload_n 1, 1) := by decide +kernel
theorem dX9_shop_2 : decode cX9_shop 2 = .ok (.invokevirtual 186, 3) := by decide +kernel
theorem dX9_shop_5 : decode cX9_shop 5 = .ok (.ifCond .eq 15, 3) := by decide +kernel
theorem dX9_shop_8 : decode cX9_shop 8 = .ok (.iload_n 2, 1) := by decide +kernel
theorem dX9_shop_9 : decode cX9_shop 9 = .ok (.i2l, 1) := by decide +kernel
theorem dX9_shop_10 : decode cX9_shop 10 = .ok (.lconst 0, 1) := by decide +kernel
theorem dX9_shop_11 : decode cX9_shop 11 = .ok (.ldc2_w 284, 3) := by decide +kernel
theorem dX9_shop_14 : decode cX9_shop 14 = .ok (.invokestatic 102, 3) := by decide +kernel
theorem dX9_shop_17 : decode cX9_shop 17 = .ok (.ifCond .ne 5, 3) := by decide +kernel
theorem dX9_shop_20 : decode cX9_shop 20 = .ok (.iconst (-1), 1) := by decide +kernel
theorem dX9_shop_21 : decode cX9_shop 21 = .ok (.ireturn, 1) := by decide +kernel
theorem dX9_shop_22 : decode cX9_shop 22 = .ok (.aload_n 0, 1) := by decide +kernel
theorem dX9_shop_23 : decode cX9_shop 23 = .ok (.getfield 64, 3) := by decide +kernel
theorem dX9_shop_26 : decode cX9_shop 26 = .ok (.iload_n 1, 1) := by decide +kernel
theorem dX9_shop_27 : decode cX9_shop 27 = .ok (.iaload, 1) := by decide +kernel
theorem dX9_shop_28 : decode cX9_shop 28 = .ok (.istore_n 3, 1) := by decide +kernel
theorem dX9_shop_29 : decode cX9_shop 29 = .ok (.aload_n 0, 1) := by decide +kernel
theorem dX9_shop_30 : decode cX9_shop 30 = .ok (.getfield 64, 3) := by decide +kernel
theorem dX9_shop_33 : decode cX9_shop 33 = .ok (.iload_n 1, 1) := by decide +kernel
theorem dX9_shop_34 : decode cX9_shop 34 = .ok (.iload_n 2, 1) := by decide +kernel
theorem dX9_shop_35 : decode cX9_shop 35 = .ok (.iastore, 1) := by decide +kernel
theorem dX9_shop_36 : decode cX9_shop 36 = .ok (.iload_n 3, 1) := by decide +kernel
theorem dX9_shop_37 : decode cX9_shop 37 = .ok (.ireturn, 1) := by decide +kernel
theorem dX9_chartOf_0 : decode cX9_chartOf 0 = .ok (.iconst 0, 1) := by decide +kernel
theorem dX9_chartOf_1 : decode cX9_chartOf 1 = .ok (.istore_n 2, 1) := by decide +kernel
theorem dX9_chartOf_2 : decode cX9_chartOf 2 = .ok (.iconst 0, 1) := by decide +kernel
theorem dX9_chartOf_3 : decode cX9_chartOf 3 = .ok (.istore_n 3, 1) := by decide +kernel
theorem dX9_chartOf_4 : decode cX9_chartOf 4 = .ok (.iload_n 3, 1) := by decide +kernel
theorem dX9_chartOf_5 : decode cX9_chartOf 5 = .ok (.aload_n 0, 1) := by decide +kernel
theorem dX9_chartOf_6 : decode cX9_chartOf 6 = .ok (.getfield 174, 3) := by decide +kernel
theorem dX9_chartOf_9 : decode cX9_chartOf 9 = .ok (.if_icmp .ge 25, 3) := by decide +kernel
theorem dX9_chartOf_12 : decode cX9_chartOf 12 = .ok (.iload_n 2, 1) := by decide +kernel
theorem dX9_chartOf_13 : decode cX9_chartOf 13 = .ok (.aload_n 0, 1) := by decide +kernel
theorem dX9_chartOf_14 : decode cX9_chartOf 14 = .ok (.getfield 64, 3) := by decide +kernel
theorem dX9_chartOf_17 : decode cX9_chartOf 17 = .ok (.iload_n 3, 1) := by decide +kernel
theorem dX9_chartOf_18 : decode cX9_chartOf 18 = .ok (.iaload, 1) := by decide +kernel
theorem dX9_chartOf_19 : decode cX9_chartOf 19 = .ok (.aload_n 0, 1) := by decide +kernel
theorem dX9_chartOf_20 : decode cX9_chartOf 20 = .ok (.iload_n 3, 1) := by decide +kernel
theorem dX9_chartOf_21 : decode cX9_chartOf 21 = .ok (.iload_n 1, 1) := by decide +kernel
theorem dX9_chartOf_22 : decode cX9_chartOf 22 = .ok (.invokevirtual 191, 3) := by decide +kernel
theorem dX9_chartOf_25 : decode cX9_chartOf 25 = .ok (.imul, 1) := by decide +kernel
theorem dX9_chartOf_26 : decode cX9_chartOf 26 = .ok (.iadd, 1) := by decide +kernel
theorem dX9_chartOf_27 : decode cX9_chartOf 27 = .ok (.istore_n 2, 1) := by decide +kernel
theorem dX9_chartOf_28 : decode cX9_chartOf 28 = .ok (.iinc 3 1, 3) := by decide +kernel
theorem dX9_chartOf_31 : decode cX9_chartOf 31 = .ok (.goto (-27), 3) := by decide +kernel
theorem dX9_chartOf_34 : decode cX9_chartOf 34 = .ok (.iload_n 2, 1) := by decide +kernel
theorem dX9_chartOf_35 : decode cX9_chartOf 35 = .ok (.ireturn, 1) := by decide +kernel
theorem dX9_chart_0 : decode cX9_chart 0 = .ok (.aload_n 0, 1) := by decide +kernel
theorem dX9_chart_1 : decode cX9_chart 1 = .ok (.iload_n 1, 1) := by decide +kernel
theorem dX9_chart_2 : decode cX9_chart 2 = .ok (.invokevirtual 111, 3) := by decide +kernel
theorem dX9_chart_5 : decode cX9_chart 5 = .ok (.ifCond .eq 13, 3) := by decide +kernel
theorem dX9_chart_8 : decode cX9_chart 8 = .ok (.iload_n 2, 1) := by decide +kernel
theorem dX9_chart_9 : decode cX9_chart 9 = .ok (.i2l, 1) := by decide +kernel
theorem dX9_chart_10 : decode cX9_chart 10 = .ok (.lconst 0, 1) := by decide +kernel
theorem dX9_chart_11 : decode cX9_chart 11 = .ok (.lconst 1, 1) := by decide +kernel
theorem dX9_chart_12 : decode cX9_chart 12 = .ok (.invokestatic 102, 3) := by decide +kernel
theorem dX9_chart_15 : decode cX9_chart 15 = .ok (.ifCond .ne 5, 3) := by decide +kernel
theorem dX9_chart_18 : decode cX9_chart 18 = .ok (.iconst (-1), 1) := by decide +kernel
theorem dX9_chart_19 : decode cX9_chart 19 = .ok (.ireturn, 1) := by decide +kernel
theorem dX9_chart_20 : decode cX9_chart 20 = .ok (.iconst 0, 1) := by decide +kernel
theorem dX9_chart_21 : decode cX9_chart 21 = .ok (.istore_n 3, 1) := by decide +kernel
theorem dX9_chart_22 : decode cX9_chart 22 = .ok (.iload_n 3, 1) := by decide +kernel
theorem dX9_chart_23 : decode cX9_chart 23 = .ok (.aload_n 0, 1) := by decide +kernel
theorem dX9_chart_24 : decode cX9_chart 24 = .ok (.getfield 99, 3) := by decide +kernel
theorem dX9_chart_27 : decode cX9_chart 27 = .ok (.if_icmp .ge 94, 3) := by decide +kernel
theorem dX9_chart_30 : decode cX9_chart 30 = .ok (.iconst 0, 1) := by decide +kernel
theorem dX9_chart_31 : decode cX9_chart 31 = .ok (.istore 4, 2) := by decide +kernel
theorem dX9_chart_33 : decode cX9_chart 33 = .ok (.iconst 0, 1) := by decide +kernel
theorem dX9_chart_34 : decode cX9_chart 34 = .ok (.istore 5, 2) := by decide +kernel
theorem dX9_chart_36 : decode cX9_chart 36 = .ok (.iload 5, 2) := by decide +kernel
theorem dX9_chart_38 : decode cX9_chart 38 = .ok (.aload_n 0, 1) := by decide +kernel
theorem dX9_chart_39 : decode cX9_chart 39 = .ok (.getfield 99, 3) := by decide +kernel
theorem dX9_chart_42 : decode cX9_chart 42 = .ok (.if_icmp .ge 53, 3) := by decide +kernel
theorem dX9_chart_45 : decode cX9_chart 45 = .ok (.iload 4, 2) := by decide +kernel
theorem dX9_chart_47 : decode cX9_chart 47 = .ok (.aload_n 0, 1) := by decide +kernel
theorem dX9_chart_48 : decode cX9_chart 48 = .ok (.iload 5, 2) := by decide +kernel
theorem dX9_chart_50 : decode cX9_chart 50 = .ok (.invokevirtual 286, 3) := by decide +kernel
theorem dX9_chart_53 : decode cX9_chart 53 = .ok (.aload_n 0, 1) := by decide +kernel
theorem dX9_chart_54 : decode cX9_chart 54 = .ok (.iload_n 3, 1) := by decide +kernel
theorem dX9_chart_55 : decode cX9_chart 55 = .ok (.invokevirtual 286, 3) := by decide +kernel
theorem dX9_chart_58 : decode cX9_chart 58 = .ok (.if_icmp .gt 23, 3) := by decide +kernel
theorem dX9_chart_61 : decode cX9_chart 61 = .ok (.aload_n 0, 1) := by decide +kernel
theorem dX9_chart_62 : decode cX9_chart 62 = .ok (.iload 5, 2) := by decide +kernel
theorem dX9_chart_64 : decode cX9_chart 64 = .ok (.invokevirtual 286, 3) := by decide +kernel
theorem dX9_chart_67 : decode cX9_chart 67 = .ok (.aload_n 0, 1) := by decide +kernel
theorem dX9_chart_68 : decode cX9_chart 68 = .ok (.iload_n 3, 1) := by decide +kernel
theorem dX9_chart_69 : decode cX9_chart 69 = .ok (.invokevirtual 286, 3) := by decide +kernel
theorem dX9_chart_72 : decode cX9_chart 72 = .ok (.if_icmp .ne 13, 3) := by decide +kernel
theorem dX9_chart_75 : decode cX9_chart 75 = .ok (.iload 5, 2) := by decide +kernel
theorem dX9_chart_77 : decode cX9_chart 77 = .ok (.iload_n 3, 1) := by decide +kernel
theorem dX9_chart_78 : decode cX9_chart 78 = .ok (.if_icmp .ge 7, 3) := by decide +kernel
theorem dX9_chart_81 : decode cX9_chart 81 = .ok (.iconst 1, 1) := by decide +kernel
theorem dX9_chart_82 : decode cX9_chart 82 = .ok (.goto 4, 3) := by decide +kernel
theorem dX9_chart_85 : decode cX9_chart 85 = .ok (.iconst 0, 1) := by decide +kernel
theorem dX9_chart_86 : decode cX9_chart 86 = .ok (.iadd, 1) := by decide +kernel
theorem dX9_chart_87 : decode cX9_chart 87 = .ok (.istore 4, 2) := by decide +kernel
theorem dX9_chart_89 : decode cX9_chart 89 = .ok (.iinc 5 1, 3) := by decide +kernel
theorem dX9_chart_92 : decode cX9_chart 92 = .ok (.goto (-56), 3) := by decide +kernel
theorem dX9_chart_95 : decode cX9_chart 95 = .ok (.iload 4, 2) := by decide +kernel
theorem dX9_chart_97 : decode cX9_chart 97 = .ok (.iload_n 1, 1) := by decide +kernel
theorem dX9_chart_98 : decode cX9_chart 98 = .ok (.if_icmp .ne 17, 3) := by decide +kernel
theorem dX9_chart_101 : decode cX9_chart 101 = .ok (.iload_n 2, 1) := by decide +kernel
theorem dX9_chart_102 : decode cX9_chart 102 = .ok (.ifCond .ne 7, 3) := by decide +kernel
theorem dX9_chart_105 : decode cX9_chart 105 = .ok (.iload_n 3, 1) := by decide +kernel
theorem dX9_chart_106 : decode cX9_chart 106 = .ok (.goto 8, 3) := by decide +kernel
theorem dX9_chart_109 : decode cX9_chart 109 = .ok (.aload_n 0, 1) := by decide +kernel
theorem dX9_chart_110 : decode cX9_chart 110 = .ok (.iload_n 3, 1) := by decide +kernel
theorem dX9_chart_111 : decode cX9_chart 111 = .ok (.invokevirtual 286, 3) := by decide +kernel
theorem dX9_chart_114 : decode cX9_chart 114 = .ok (.ireturn, 1) := by decide +kernel
theorem dX9_chart_115 : decode cX9_chart 115 = .ok (.iinc 3 1, 3) := by decide +kernel
theorem dX9_chart_118 : decode cX9_chart 118 = .ok (.goto (-96), 3) := by decide +kernel
theorem dX9_chart_121 : decode cX9_chart 121 = .ok (.iconst (-1), 1) := by decide +kernel
theorem dX9_chart_122 : decode cX9_chart 122 = .ok (.ireturn, 1) := by decide +kernel
theorem dX9_crate_0 : decode cX9_crate 0 = .ok (.aload_n 0, 1) := by decide +kernel
theorem dX9_crate_1 : decode cX9_crate 1 = .ok (.iload_n 1, 1) := by decide +kernel
theorem dX9_crate_2 : decode cX9_crate 2 = .ok (.invokevirtual 186, 3) := by decide +kernel
theorem dX9_crate_5 : decode cX9_crate 5 = .ok (.ifCond .eq 23, 3) := by decide +kernel
theorem dX9_crate_8 : decode cX9_crate 8 = .ok (.aload_n 0, 1) := by decide +kernel
theorem dX9_crate_9 : decode cX9_crate 9 = .ok (.iload_n 2, 1) := by decide +kernel
theorem dX9_crate_10 : decode cX9_crate 10 = .ok (.invokevirtual 111, 3) := by decide +kernel
theorem dX9_crate_13 : decode cX9_crate 13 = .ok (.ifCond .eq 15, 3) := by decide +kernel
theorem dX9_crate_16 : decode cX9_crate 16 = .ok (.iload_n 3, 1) := by decide +kernel
theorem dX9_crate_17 : decode cX9_crate 17 = .ok (.i2l, 1) := by decide +kernel
theorem dX9_crate_18 : decode cX9_crate 18 = .ok (.lconst 1, 1) := by decide +kernel
theorem dX9_crate_19 : decode cX9_crate 19 = .ok (.ldc2_w 189, 3) := by decide +kernel
theorem dX9_crate_22 : decode cX9_crate 22 = .ok (.invokestatic 102, 3) := by decide +kernel
theorem dX9_crate_25 : decode cX9_crate 25 = .ok (.ifCond .ne 5, 3) := by decide +kernel
theorem dX9_crate_28 : decode cX9_crate 28 = .ok (.iconst (-1), 1) := by decide +kernel
theorem dX9_crate_29 : decode cX9_crate 29 = .ok (.ireturn, 1) := by decide +kernel
theorem dX9_crate_30 : decode cX9_crate 30 = .ok (.aload_n 0, 1) := by decide +kernel
theorem dX9_crate_31 : decode cX9_crate 31 = .ok (.iload_n 1, 1) := by decide +kernel
theorem dX9_crate_32 : decode cX9_crate 32 = .ok (.iload_n 2, 1) := by decide +kernel
theorem dX9_crate_33 : decode cX9_crate 33 = .ok (.invokevirtual 191, 3) := by decide +kernel
theorem dX9_crate_36 : decode cX9_crate 36 = .ok (.iload_n 3, 1) := by decide +kernel
theorem dX9_crate_37 : decode cX9_crate 37 = .ok (.iadd, 1) := by decide +kernel
theorem dX9_crate_38 : decode cX9_crate 38 = .ok (.istore 4, 2) := by decide +kernel
theorem dX9_crate_40 : decode cX9_crate 40 = .ok (.aload_n 0, 1) := by decide +kernel
theorem dX9_crate_41 : decode cX9_crate 41 = .ok (.bipush 23, 2) := by decide +kernel
theorem dX9_crate_43 : decode cX9_crate 43 = .ok (.bipush 12, 2) := by decide +kernel
theorem dX9_crate_45 : decode cX9_crate 45 = .ok (.iload_n 1, 1) := by decide +kernel
theorem dX9_crate_46 : decode cX9_crate 46 = .ok (.imul, 1) := by decide +kernel
theorem dX9_crate_47 : decode cX9_crate 47 = .ok (.iadd, 1) := by decide +kernel
theorem dX9_crate_48 : decode cX9_crate 48 = .ok (.iload_n 2, 1) := by decide +kernel
theorem dX9_crate_49 : decode cX9_crate 49 = .ok (.iadd, 1) := by decide +kernel
theorem dX9_crate_50 : decode cX9_crate 50 = .ok (.iload 4, 2) := by decide +kernel
theorem dX9_crate_52 : decode cX9_crate 52 = .ok (.ldc 222, 2) := by decide +kernel
theorem dX9_crate_54 : decode cX9_crate 54 = .ok (.if_icmp .le 8, 3) := by decide +kernel
theorem dX9_crate_57 : decode cX9_crate 57 = .ok (.ldc 222, 2) := by decide +kernel
theorem dX9_crate_59 : decode cX9_crate 59 = .ok (.goto 5, 3) := by decide +kernel
theorem dX9_crate_62 : decode cX9_crate 62 = .ok (.iload 4, 2) := by decide +kernel
theorem dX9_crate_64 : decode cX9_crate 64 = .ok (.invokevirtual 115, 3) := by decide +kernel
theorem dX9_crate_67 : decode cX9_crate 67 = .ok (.istore 5, 2) := by decide +kernel
theorem dX9_crate_69 : decode cX9_crate 69 = .ok (.aload_n 0, 1) := by decide +kernel
theorem dX9_crate_70 : decode cX9_crate 70 = .ok (.iload_n 1, 1) := by decide +kernel
theorem dX9_crate_71 : decode cX9_crate 71 = .ok (.iload_n 2, 1) := by decide +kernel
theorem dX9_crate_72 : decode cX9_crate 72 = .ok (.invokevirtual 191, 3) := by decide +kernel
theorem dX9_crate_75 : decode cX9_crate 75 = .ok (.ireturn, 1) := by decide +kernel
theorem dX9_found_0 : decode cX9_found 0 = .ok (.aload_n 0, 1) := by decide +kernel
theorem dX9_found_1 : decode cX9_found 1 = .ok (.iload_n 1, 1) := by decide +kernel
theorem dX9_found_2 : decode cX9_found 2 = .ok (.invokevirtual 186, 3) := by decide +kernel
theorem dX9_found_5 : decode cX9_found 5 = .ok (.ifCond .eq 13, 3) := by decide +kernel
theorem dX9_found_8 : decode cX9_found 8 = .ok (.iload_n 2, 1) := by decide +kernel
theorem dX9_found_9 : decode cX9_found 9 = .ok (.i2l, 1) := by decide +kernel
theorem dX9_found_10 : decode cX9_found 10 = .ok (.lconst 0, 1) := by decide +kernel
theorem dX9_found_11 : decode cX9_found 11 = .ok (.lconst 1, 1) := by decide +kernel
theorem dX9_found_12 : decode cX9_found 12 = .ok (.invokestatic 102, 3) := by decide +kernel
theorem dX9_found_15 : decode cX9_found 15 = .ok (.ifCond .ne 5, 3) := by decide +kernel
theorem dX9_found_18 : decode cX9_found 18 = .ok (.iconst (-1), 1) := by decide +kernel
theorem dX9_found_19 : decode cX9_found 19 = .ok (.ireturn, 1) := by decide +kernel
theorem dX9_found_20 : decode cX9_found 20 = .ok (.aload_n 0, 1) := by decide +kernel
theorem dX9_found_21 : decode cX9_found 21 = .ok (.iload_n 1, 1) := by decide +kernel
theorem dX9_found_22 : decode cX9_found 22 = .ok (.invokevirtual 204, 3) := by decide +kernel
theorem dX9_found_25 : decode cX9_found 25 = .ok (.i2l, 1) := by decide +kernel
theorem dX9_found_26 : decode cX9_found 26 = .ok (.lstore_n 3, 1) := by decide +kernel
theorem dX9_found_27 : decode cX9_found 27 = .ok (.lconst 0, 1) := by decide +kernel
theorem dX9_found_28 : decode cX9_found 28 = .ok (.lstore 5, 2) := by decide +kernel
theorem dX9_found_30 : decode cX9_found 30 = .ok (.iconst 0, 1) := by decide +kernel
theorem dX9_found_31 : decode cX9_found 31 = .ok (.istore 7, 2) := by decide +kernel
theorem dX9_found_33 : decode cX9_found 33 = .ok (.iload 7, 2) := by decide +kernel
theorem dX9_found_35 : decode cX9_found 35 = .ok (.aload_n 0, 1) := by decide +kernel
theorem dX9_found_36 : decode cX9_found 36 = .ok (.getfield 99, 3) := by decide +kernel
theorem dX9_found_39 : decode cX9_found 39 = .ok (.if_icmp .ge 22, 3) := by decide +kernel
theorem dX9_found_42 : decode cX9_found 42 = .ok (.lload 5, 2) := by decide +kernel
theorem dX9_found_44 : decode cX9_found 44 = .ok (.aload_n 0, 1) := by decide +kernel
theorem dX9_found_45 : decode cX9_found 45 = .ok (.getfield 9, 3) := by decide +kernel
theorem dX9_found_48 : decode cX9_found 48 = .ok (.iload 7, 2) := by decide +kernel
theorem dX9_found_50 : decode cX9_found 50 = .ok (.iaload, 1) := by decide +kernel
theorem dX9_found_51 : decode cX9_found 51 = .ok (.i2l, 1) := by decide +kernel
theorem dX9_found_52 : decode cX9_found 52 = .ok (.ladd, 1) := by decide +kernel
theorem dX9_found_53 : decode cX9_found 53 = .ok (.lstore 5, 2) := by decide +kernel
theorem dX9_found_55 : decode cX9_found 55 = .ok (.iinc 7 1, 3) := by decide +kernel
theorem dX9_found_58 : decode cX9_found 58 = .ok (.goto (-25), 3) := by decide +kernel
theorem dX9_found_61 : decode cX9_found 61 = .ok (.lload_n 3, 1) := by decide +kernel
theorem dX9_found_62 : decode cX9_found 62 = .ok (.lconst 0, 1) := by decide +kernel
theorem dX9_found_63 : decode cX9_found 63 = .ok (.lcmp, 1) := by decide +kernel
theorem dX9_found_64 : decode cX9_found 64 = .ok (.ifCond .eq 10, 3) := by decide +kernel
theorem dX9_found_67 : decode cX9_found 67 = .ok (.lload 5, 2) := by decide +kernel
theorem dX9_found_69 : decode cX9_found 69 = .ok (.lconst 0, 1) := by decide +kernel
theorem dX9_found_70 : decode cX9_found 70 = .ok (.lcmp, 1) := by decide +kernel
theorem dX9_found_71 : decode cX9_found 71 = .ok (.ifCond .ne 6, 3) := by decide +kernel
theorem dX9_found_74 : decode cX9_found 74 = .ok (.bipush (-2), 2) := by decide +kernel
theorem dX9_found_76 : decode cX9_found 76 = .ok (.ireturn, 1) := by decide +kernel
theorem dX9_found_77 : decode cX9_found 77 = .ok (.iconst 0, 1) := by decide +kernel
theorem dX9_found_78 : decode cX9_found 78 = .ok (.istore 7, 2) := by decide +kernel
theorem dX9_found_80 : decode cX9_found 80 = .ok (.iconst 0, 1) := by decide +kernel
theorem dX9_found_81 : decode cX9_found 81 = .ok (.istore 8, 2) := by decide +kernel
theorem dX9_found_83 : decode cX9_found 83 = .ok (.iconst 0, 1) := by decide +kernel
theorem dX9_found_84 : decode cX9_found 84 = .ok (.istore 9, 2) := by decide +kernel
theorem dX9_found_86 : decode cX9_found 86 = .ok (.iload 9, 2) := by decide +kernel
theorem dX9_found_88 : decode cX9_found 88 = .ok (.aload_n 0, 1) := by decide +kernel
theorem dX9_found_89 : decode cX9_found 89 = .ok (.getfield 99, 3) := by decide +kernel
theorem dX9_found_92 : decode cX9_found 92 = .ok (.if_icmp .ge 53, 3) := by decide +kernel
theorem dX9_found_95 : decode cX9_found 95 = .ok (.aload_n 0, 1) := by decide +kernel
theorem dX9_found_96 : decode cX9_found 96 = .ok (.iload_n 1, 1) := by decide +kernel
theorem dX9_found_97 : decode cX9_found 97 = .ok (.iload 9, 2) := by decide +kernel
theorem dX9_found_99 : decode cX9_found 99 = .ok (.invokevirtual 191, 3) := by decide +kernel
theorem dX9_found_102 : decode cX9_found 102 = .ok (.lload_n 3, 1) := by decide +kernel
theorem dX9_found_103 : decode cX9_found 103 = .ok (.aload_n 0, 1) := by decide +kernel
theorem dX9_found_104 : decode cX9_found 104 = .ok (.getfield 9, 3) := by decide +kernel
theorem dX9_found_107 : decode cX9_found 107 = .ok (.iload 9, 2) := by decide +kernel
theorem dX9_found_109 : decode cX9_found 109 = .ok (.iaload, 1) := by decide +kernel
theorem dX9_found_110 : decode cX9_found 110 = .ok (.i2l, 1) := by decide +kernel
theorem dX9_found_111 : decode cX9_found 111 = .ok (.lmul, 1) := by decide +kernel
theorem dX9_found_112 : decode cX9_found 112 = .ok (.lload 5, 2) := by decide +kernel
theorem dX9_found_114 : decode cX9_found 114 = .ok (.ldiv, 1) := by decide +kernel
theorem dX9_found_115 : decode cX9_found 115 = .ok (.l2i, 1) := by decide +kernel
theorem dX9_found_116 : decode cX9_found 116 = .ok (.isub, 1) := by decide +kernel
theorem dX9_found_117 : decode cX9_found 117 = .ok (.istore 10, 2) := by decide +kernel
theorem dX9_found_119 : decode cX9_found 119 = .ok (.iload 9, 2) := by decide +kernel
theorem dX9_found_121 : decode cX9_found 121 = .ok (.ifCond .eq 10, 3) := by decide +kernel
theorem dX9_found_124 : decode cX9_found 124 = .ok (.iload 10, 2) := by decide +kernel
theorem dX9_found_126 : decode cX9_found 126 = .ok (.iload 8, 2) := by decide +kernel
theorem dX9_found_128 : decode cX9_found 128 = .ok (.if_icmp .le 11, 3) := by decide +kernel
theorem dX9_found_131 : decode cX9_found 131 = .ok (.iload 9, 2) := by decide +kernel
theorem dX9_found_133 : decode cX9_found 133 = .ok (.istore 7, 2) := by decide +kernel
theorem dX9_found_135 : decode cX9_found 135 = .ok (.iload 10, 2) := by decide +kernel
theorem dX9_found_137 : decode cX9_found 137 = .ok (.istore 8, 2) := by decide +kernel
theorem dX9_found_139 : decode cX9_found 139 = .ok (.iinc 9 1, 3) := by decide +kernel
theorem dX9_found_142 : decode cX9_found 142 = .ok (.goto (-56), 3) := by decide +kernel
theorem dX9_found_145 : decode cX9_found 145 = .ok (.iload_n 2, 1) := by decide +kernel
theorem dX9_found_146 : decode cX9_found 146 = .ok (.ifCond .ne 8, 3) := by decide +kernel
theorem dX9_found_149 : decode cX9_found 149 = .ok (.iload 7, 2) := by decide +kernel
theorem dX9_found_151 : decode cX9_found 151 = .ok (.goto 5, 3) := by decide +kernel
theorem dX9_found_154 : decode cX9_found 154 = .ok (.iload 8, 2) := by decide +kernel
theorem dX9_found_156 : decode cX9_found 156 = .ok (.ireturn, 1) := by decide +kernel
theorem dX9_bitsOf_0 : decode cX9_bitsOf 0 = .ok (.iconst 0, 1) := by decide +kernel
theorem dX9_bitsOf_1 : decode cX9_bitsOf 1 = .ok (.istore_n 1, 1) := by decide +kernel
theorem dX9_bitsOf_2 : decode cX9_bitsOf 2 = .ok (.iload_n 0, 1) := by decide +kernel
theorem dX9_bitsOf_3 : decode cX9_bitsOf 3 = .ok (.istore_n 2, 1) := by decide +kernel
theorem dX9_bitsOf_4 : decode cX9_bitsOf 4 = .ok (.iload_n 2, 1) := by decide +kernel
theorem dX9_bitsOf_5 : decode cX9_bitsOf 5 = .ok (.ifCond .eq 15, 3) := by decide +kernel
theorem dX9_bitsOf_8 : decode cX9_bitsOf 8 = .ok (.iinc 1 1, 3) := by decide +kernel
theorem dX9_bitsOf_11 : decode cX9_bitsOf 11 = .ok (.iload_n 2, 1) := by decide +kernel
theorem dX9_bitsOf_12 : decode cX9_bitsOf 12 = .ok (.iload_n 2, 1) := by decide +kernel
theorem dX9_bitsOf_13 : decode cX9_bitsOf 13 = .ok (.iconst 1, 1) := by decide +kernel
theorem dX9_bitsOf_14 : decode cX9_bitsOf 14 = .ok (.isub, 1) := by decide +kernel
theorem dX9_bitsOf_15 : decode cX9_bitsOf 15 = .ok (.iand, 1) := by decide +kernel
theorem dX9_bitsOf_16 : decode cX9_bitsOf 16 = .ok (.istore_n 2, 1) := by decide +kernel
theorem dX9_bitsOf_17 : decode cX9_bitsOf 17 = .ok (.goto (-13), 3) := by decide +kernel
theorem dX9_bitsOf_20 : decode cX9_bitsOf 20 = .ok (.iload_n 1, 1) := by decide +kernel
theorem dX9_bitsOf_21 : decode cX9_bitsOf 21 = .ok (.ireturn, 1) := by decide +kernel
theorem dX9_house_0 : decode cX9_house 0 = .ok (.aload_n 0, 1) := by decide +kernel
theorem dX9_house_1 : decode cX9_house 1 = .ok (.iload_n 1, 1) := by decide +kernel
theorem dX9_house_2 : decode cX9_house 2 = .ok (.invokevirtual 186, 3) := by decide +kernel
theorem dX9_house_5 : decode cX9_house 5 = .ok (.ifCond .eq 43, 3) := by decide +kernel
theorem dX9_house_8 : decode cX9_house 8 = .ok (.iload_n 2, 1) := by decide +kernel
theorem dX9_house_9 : decode cX9_house 9 = .ok (.ifCond .lt 39, 3) := by decide +kernel
theorem dX9_house_12 : decode cX9_house 12 = .ok (.iload_n 2, 1) := by decide +kernel
theorem dX9_house_13 : decode cX9_house 13 = .ok (.aload_n 0, 1) := by decide +kernel
theorem dX9_house_14 : decode cX9_house 14 = .ok (.getfield 99, 3) := by decide +kernel
theorem dX9_house_17 : decode cX9_house 17 = .ok (.ishr, 1) := by decide +kernel
theorem dX9_house_18 : decode cX9_house 18 = .ok (.ifCond .ne 30, 3) := by decide +kernel
theorem dX9_house_21 : decode cX9_house 21 = .ok (.iload_n 3, 1) := by decide +kernel
theorem dX9_house_22 : decode cX9_house 22 = .ok (.i2l, 1) := by decide +kernel
theorem dX9_house_23 : decode cX9_house 23 = .ok (.lconst 1, 1) := by decide +kernel
theorem dX9_house_24 : decode cX9_house 24 = .ok (.aload_n 0, 1) := by decide +kernel
theorem dX9_house_25 : decode cX9_house 25 = .ok (.getfield 99, 3) := by decide +kernel
theorem dX9_house_28 : decode cX9_house 28 = .ok (.i2l, 1) := by decide +kernel
theorem dX9_house_29 : decode cX9_house 29 = .ok (.invokestatic 102, 3) := by decide +kernel
theorem dX9_house_32 : decode cX9_house 32 = .ok (.ifCond .eq 16, 3) := by decide +kernel
theorem dX9_house_35 : decode cX9_house 35 = .ok (.iload 4, 2) := by decide +kernel
theorem dX9_house_37 : decode cX9_house 37 = .ok (.i2l, 1) := by decide +kernel
theorem dX9_house_38 : decode cX9_house 38 = .ok (.lconst 0, 1) := by decide +kernel
theorem dX9_house_39 : decode cX9_house 39 = .ok (.ldc2_w 289, 3) := by decide +kernel
theorem dX9_house_42 : decode cX9_house 42 = .ok (.invokestatic 102, 3) := by decide +kernel
theorem dX9_house_45 : decode cX9_house 45 = .ok (.ifCond .ne 7, 3) := by decide +kernel
theorem dX9_house_48 : decode cX9_house 48 = .ok (.ldc_w 291, 3) := by decide +kernel
theorem dX9_house_51 : decode cX9_house 51 = .ok (.ireturn, 1) := by decide +kernel
theorem dX9_house_52 : decode cX9_house 52 = .ok (.iconst 0, 1) := by decide +kernel
theorem dX9_house_53 : decode cX9_house 53 = .ok (.istore 5, 2) := by decide +kernel
theorem dX9_house_55 : decode cX9_house 55 = .ok (.iload_n 2, 1) := by decide +kernel
theorem dX9_house_56 : decode cX9_house 56 = .ok (.istore 6, 2) := by decide +kernel
theorem dX9_house_58 : decode cX9_house 58 = .ok (.iconst 0, 1) := by decide +kernel
theorem dX9_house_59 : decode cX9_house 59 = .ok (.istore 7, 2) := by decide +kernel
theorem dX9_house_61 : decode cX9_house 61 = .ok (.iload 7, 2) := by decide +kernel
theorem dX9_house_63 : decode cX9_house 63 = .ok (.aload_n 0, 1) := by decide +kernel
theorem dX9_house_64 : decode cX9_house 64 = .ok (.getfield 99, 3) := by decide +kernel
theorem dX9_house_67 : decode cX9_house 67 = .ok (.if_icmp .ge 44, 3) := by decide +kernel
theorem dX9_house_70 : decode cX9_house 70 = .ok (.iload_n 2, 1) := by decide +kernel
theorem dX9_house_71 : decode cX9_house 71 = .ok (.iload 7, 2) := by decide +kernel
theorem dX9_house_73 : decode cX9_house 73 = .ok (.ishr, 1) := by decide +kernel
theorem dX9_house_74 : decode cX9_house 74 = .ok (.iconst 1, 1) := by decide +kernel
theorem dX9_house_75 : decode cX9_house 75 = .ok (.iand, 1) := by decide +kernel
theorem dX9_house_76 : decode cX9_house 76 = .ok (.iconst 1, 1) := by decide +kernel
theorem dX9_house_77 : decode cX9_house 77 = .ok (.if_icmp .ne 28, 3) := by decide +kernel
theorem dX9_house_80 : decode cX9_house 80 = .ok (.aload_n 0, 1) := by decide +kernel
theorem dX9_house_81 : decode cX9_house 81 = .ok (.iload_n 1, 1) := by decide +kernel
theorem dX9_house_82 : decode cX9_house 82 = .ok (.iload 7, 2) := by decide +kernel
theorem dX9_house_84 : decode cX9_house 84 = .ok (.invokevirtual 194, 3) := by decide +kernel
theorem dX9_house_87 : decode cX9_house 87 = .ok (.iload_n 3, 1) := by decide +kernel
theorem dX9_house_88 : decode cX9_house 88 = .ok (.if_icmp .ge 17, 3) := by decide +kernel
theorem dX9_house_91 : decode cX9_house 91 = .ok (.iinc 5 1, 3) := by decide +kernel
theorem dX9_house_94 : decode cX9_house 94 = .ok (.iload 6, 2) := by decide +kernel
theorem dX9_house_96 : decode cX9_house 96 = .ok (.iconst 1, 1) := by decide +kernel
theorem dX9_house_97 : decode cX9_house 97 = .ok (.iload 7, 2) := by decide +kernel
theorem dX9_house_99 : decode cX9_house 99 = .ok (.ishl, 1) := by decide +kernel
theorem dX9_house_100 : decode cX9_house 100 = .ok (.iconst (-1), 1) := by decide +kernel
theorem dX9_house_101 : decode cX9_house 101 = .ok (.ixor, 1) := by decide +kernel
theorem dX9_house_102 : decode cX9_house 102 = .ok (.iand, 1) := by decide +kernel
theorem dX9_house_103 : decode cX9_house 103 = .ok (.istore 6, 2) := by decide +kernel
theorem dX9_house_105 : decode cX9_house 105 = .ok (.iinc 7 1, 3) := by decide +kernel
theorem dX9_house_108 : decode cX9_house 108 = .ok (.goto (-47), 3) := by decide +kernel
theorem dX9_house_111 : decode cX9_house 111 = .ok (.iload_n 2, 1) := by decide +kernel
theorem dX9_house_112 : decode cX9_house 112 = .ok (.invokestatic 292, 3) := by decide +kernel
theorem dX9_house_115 : decode cX9_house 115 = .ok (.iload_n 3, 1) := by decide +kernel
theorem dX9_house_116 : decode cX9_house 116 = .ok (.imul, 1) := by decide +kernel
theorem dX9_house_117 : decode cX9_house 117 = .ok (.sipush 1000, 3) := by decide +kernel
theorem dX9_house_120 : decode cX9_house 120 = .ok (.imul, 1) := by decide +kernel
theorem dX9_house_121 : decode cX9_house 121 = .ok (.aload_n 0, 1) := by decide +kernel
theorem dX9_house_122 : decode cX9_house 122 = .ok (.getfield 99, 3) := by decide +kernel
theorem dX9_house_125 : decode cX9_house 125 = .ok (.idiv, 1) := by decide +kernel
theorem dX9_house_126 : decode cX9_house 126 = .ok (.istore 7, 2) := by decide +kernel
theorem dX9_house_128 : decode cX9_house 128 = .ok (.iload 4, 2) := by decide +kernel
theorem dX9_house_130 : decode cX9_house 130 = .ok (.ifCond .ne 8, 3) := by decide +kernel
theorem dX9_house_133 : decode cX9_house 133 = .ok (.iload 5, 2) := by decide +kernel
theorem dX9_house_135 : decode cX9_house 135 = .ok (.goto 34, 3) := by decide +kernel
theorem dX9_house_138 : decode cX9_house 138 = .ok (.iload 4, 2) := by decide +kernel
theorem dX9_house_140 : decode cX9_house 140 = .ok (.iconst 1, 1) := by decide +kernel
theorem dX9_house_141 : decode cX9_house 141 = .ok (.if_icmp .ne 8, 3) := by decide +kernel
theorem dX9_house_144 : decode cX9_house 144 = .ok (.iload 7, 2) := by decide +kernel
theorem dX9_house_146 : decode cX9_house 146 = .ok (.goto 23, 3) := by decide +kernel
theorem dX9_house_149 : decode cX9_house 149 = .ok (.iload 4, 2) := by decide +kernel
theorem dX9_house_151 : decode cX9_house 151 = .ok (.iconst 2, 1) := by decide +kernel
theorem dX9_house_152 : decode cX9_house 152 = .ok (.if_icmp .ne 15, 3) := by decide +kernel
theorem dX9_house_155 : decode cX9_house 155 = .ok (.sipush 1000, 3) := by decide +kernel
theorem dX9_house_158 : decode cX9_house 158 = .ok (.iload 5, 2) := by decide +kernel
theorem dX9_house_160 : decode cX9_house 160 = .ok (.imul, 1) := by decide +kernel
theorem dX9_house_161 : decode cX9_house 161 = .ok (.iload 7, 2) := by decide +kernel
theorem dX9_house_163 : decode cX9_house 163 = .ok (.isub, 1) := by decide +kernel
theorem dX9_house_164 : decode cX9_house 164 = .ok (.goto 5, 3) := by decide +kernel
theorem dX9_house_167 : decode cX9_house 167 = .ok (.iload 6, 2) := by decide +kernel
theorem dX9_house_169 : decode cX9_house 169 = .ok (.ireturn, 1) := by decide +kernel
theorem dX9_trueFrom_0 : decode cX9_trueFrom 0 = .ok (.iload_n 1, 1) := by decide +kernel
theorem dX9_trueFrom_1 : decode cX9_trueFrom 1 = .ok (.aload_n 0, 1) := by decide +kernel
theorem dX9_trueFrom_2 : decode cX9_trueFrom 2 = .ok (.getfield 99, 3) := by decide +kernel
theorem dX9_trueFrom_5 : decode cX9_trueFrom 5 = .ok (.if_icmp .ne 5, 3) := by decide +kernel
theorem dX9_trueFrom_8 : decode cX9_trueFrom 8 = .ok (.iconst 1, 1) := by decide +kernel
theorem dX9_trueFrom_9 : decode cX9_trueFrom 9 = .ok (.ireturn, 1) := by decide +kernel
theorem dX9_trueFrom_10 : decode cX9_trueFrom 10 = .ok (.iconst 0, 1) := by decide +kernel
theorem dX9_trueFrom_11 : decode cX9_trueFrom 11 = .ok (.istore 4, 2) := by decide +kernel
theorem dX9_trueFrom_13 : decode cX9_trueFrom 13 = .ok (.iconst 0, 1) := by decide +kernel
theorem dX9_trueFrom_14 : decode cX9_trueFrom 14 = .ok (.istore 5, 2) := by decide +kernel
theorem dX9_trueFrom_16 : decode cX9_trueFrom 16 = .ok (.iload 5, 2) := by decide +kernel
theorem dX9_trueFrom_18 : decode cX9_trueFrom 18 = .ok (.aload_n 0, 1) := by decide +kernel
theorem dX9_trueFrom_19 : decode cX9_trueFrom 19 = .ok (.getfield 99, 3) := by decide +kernel
theorem dX9_trueFrom_22 : decode cX9_trueFrom 22 = .ok (.if_icmp .ge 64, 3) := by decide +kernel
theorem dX9_trueFrom_25 : decode cX9_trueFrom 25 = .ok (.iload_n 2, 1) := by decide +kernel
theorem dX9_trueFrom_26 : decode cX9_trueFrom 26 = .ok (.iload 5, 2) := by decide +kernel
theorem dX9_trueFrom_28 : decode cX9_trueFrom 28 = .ok (.ishr, 1) := by decide +kernel
theorem dX9_trueFrom_29 : decode cX9_trueFrom 29 = .ok (.iconst 1, 1) := by decide +kernel
theorem dX9_trueFrom_30 : decode cX9_trueFrom 30 = .ok (.iand, 1) := by decide +kernel
theorem dX9_trueFrom_31 : decode cX9_trueFrom 31 = .ok (.ifCond .ne 49, 3) := by decide +kernel
theorem dX9_trueFrom_34 : decode cX9_trueFrom 34 = .ok (.aload_n 0, 1) := by decide +kernel
theorem dX9_trueFrom_35 : decode cX9_trueFrom 35 = .ok (.getfield 67, 3) := by decide +kernel
theorem dX9_trueFrom_38 : decode cX9_trueFrom 38 = .ok (.bipush 6, 2) := by decide +kernel
theorem dX9_trueFrom_40 : decode cX9_trueFrom 40 = .ok (.iload 5, 2) := by decide +kernel
theorem dX9_trueFrom_42 : decode cX9_trueFrom 42 = .ok (.imul, 1) := by decide +kernel
theorem dX9_trueFrom_43 : decode cX9_trueFrom 43 = .ok (.iload_n 1, 1) := by decide +kernel
theorem dX9_trueFrom_44 : decode cX9_trueFrom 44 = .ok (.iadd, 1) := by decide +kernel
theorem dX9_trueFrom_45 : decode cX9_trueFrom 45 = .ok (.iaload, 1) := by decide +kernel
theorem dX9_trueFrom_46 : decode cX9_trueFrom 46 = .ok (.iload_n 3, 1) := by decide +kernel
theorem dX9_trueFrom_47 : decode cX9_trueFrom 47 = .ok (.if_icmp .gt 33, 3) := by decide +kernel
theorem dX9_trueFrom_50 : decode cX9_trueFrom 50 = .ok (.iload 4, 2) := by decide +kernel
theorem dX9_trueFrom_52 : decode cX9_trueFrom 52 = .ok (.aload_n 0, 1) := by decide +kernel
theorem dX9_trueFrom_53 : decode cX9_trueFrom 53 = .ok (.iload_n 1, 1) := by decide +kernel
theorem dX9_trueFrom_54 : decode cX9_trueFrom 54 = .ok (.iconst 1, 1) := by decide +kernel
theorem dX9_trueFrom_55 : decode cX9_trueFrom 55 = .ok (.iadd, 1) := by decide +kernel
theorem dX9_trueFrom_56 : decode cX9_trueFrom 56 = .ok (.iload_n 2, 1) := by decide +kernel
theorem dX9_trueFrom_57 : decode cX9_trueFrom 57 = .ok (.iconst 1, 1) := by decide +kernel
theorem dX9_trueFrom_58 : decode cX9_trueFrom 58 = .ok (.iload 5, 2) := by decide +kernel
theorem dX9_trueFrom_60 : decode cX9_trueFrom 60 = .ok (.ishl, 1) := by decide +kernel
theorem dX9_trueFrom_61 : decode cX9_trueFrom 61 = .ok (.ior, 1) := by decide +kernel
theorem dX9_trueFrom_62 : decode cX9_trueFrom 62 = .ok (.aload_n 0, 1) := by decide +kernel
theorem dX9_trueFrom_63 : decode cX9_trueFrom 63 = .ok (.getfield 67, 3) := by decide +kernel
theorem dX9_trueFrom_66 : decode cX9_trueFrom 66 = .ok (.bipush 6, 2) := by decide +kernel
theorem dX9_trueFrom_68 : decode cX9_trueFrom 68 = .ok (.iload 5, 2) := by decide +kernel
theorem dX9_trueFrom_70 : decode cX9_trueFrom 70 = .ok (.imul, 1) := by decide +kernel
theorem dX9_trueFrom_71 : decode cX9_trueFrom 71 = .ok (.iload_n 1, 1) := by decide +kernel
theorem dX9_trueFrom_72 : decode cX9_trueFrom 72 = .ok (.iadd, 1) := by decide +kernel
theorem dX9_trueFrom_73 : decode cX9_trueFrom 73 = .ok (.iaload, 1) := by decide +kernel
theorem dX9_trueFrom_74 : decode cX9_trueFrom 74 = .ok (.invokevirtual 295, 3) := by decide +kernel
theorem dX9_trueFrom_77 : decode cX9_trueFrom 77 = .ok (.iadd, 1) := by decide +kernel
theorem dX9_trueFrom_78 : decode cX9_trueFrom 78 = .ok (.istore 4, 2) := by decide +kernel
theorem dX9_trueFrom_80 : decode cX9_trueFrom 80 = .ok (.iinc 5 1, 3) := by decide +kernel
theorem dX9_trueFrom_83 : decode cX9_trueFrom 83 = .ok (.goto (-67), 3) := by decide +kernel
theorem dX9_trueFrom_86 : decode cX9_trueFrom 86 = .ok (.iload 4, 2) := by decide +kernel
theorem dX9_trueFrom_88 : decode cX9_trueFrom 88 = .ok (.ireturn, 1) := by decide +kernel
theorem dX9_isSaid_0 : decode cX9_isSaid 0 = .ok (.sipush 9999, 3) := by decide +kernel
theorem dX9_isSaid_3 : decode cX9_isSaid 3 = .ok (.istore_n 3, 1) := by decide +kernel
theorem dX9_isSaid_4 : decode cX9_isSaid 4 = .ok (.iconst 0, 1) := by decide +kernel
theorem dX9_isSaid_5 : decode cX9_isSaid 5 = .ok (.istore 4, 2) := by decide +kernel
theorem dX9_isSaid_7 : decode cX9_isSaid 7 = .ok (.iload 4, 2) := by decide +kernel
theorem dX9_isSaid_9 : decode cX9_isSaid 9 = .ok (.aload_n 0, 1) := by decide +kernel
theorem dX9_isSaid_10 : decode cX9_isSaid 10 = .ok (.getfield 99, 3) := by decide +kernel
theorem dX9_isSaid_13 : decode cX9_isSaid 13 = .ok (.if_icmp .ge 39, 3) := by decide +kernel
theorem dX9_isSaid_16 : decode cX9_isSaid 16 = .ok (.aload_n 0, 1) := by decide +kernel
theorem dX9_isSaid_17 : decode cX9_isSaid 17 = .ok (.iload_n 1, 1) := by decide +kernel
theorem dX9_isSaid_18 : decode cX9_isSaid 18 = .ok (.aload_n 0, 1) := by decide +kernel
theorem dX9_isSaid_19 : decode cX9_isSaid 19 = .ok (.iload_n 2, 1) := by decide +kernel
theorem dX9_isSaid_20 : decode cX9_isSaid 20 = .ok (.iload 4, 2) := by decide +kernel
theorem dX9_isSaid_22 : decode cX9_isSaid 22 = .ok (.invokevirtual 209, 3) := by decide +kernel
theorem dX9_isSaid_25 : decode cX9_isSaid 25 = .ok (.iconst 0, 1) := by decide +kernel
theorem dX9_isSaid_26 : decode cX9_isSaid 26 = .ok (.iload 4, 2) := by decide +kernel
theorem dX9_isSaid_28 : decode cX9_isSaid 28 = .ok (.iconst 0, 1) := by decide +kernel
theorem dX9_isSaid_29 : decode cX9_isSaid 29 = .ok (.iconst 0, 1) := by decide +kernel
theorem dX9_isSaid_30 : decode cX9_isSaid 30 = .ok (.invokevirtual 200, 3) := by decide +kernel
theorem dX9_isSaid_33 : decode cX9_isSaid 33 = .ok (.istore 5, 2) := by decide +kernel
theorem dX9_isSaid_35 : decode cX9_isSaid 35 = .ok (.iload 5, 2) := by decide +kernel
theorem dX9_isSaid_37 : decode cX9_isSaid 37 = .ok (.iload_n 3, 1) := by decide +kernel
theorem dX9_isSaid_38 : decode cX9_isSaid 38 = .ok (.if_icmp .le 5, 3) := by decide +kernel
theorem dX9_isSaid_41 : decode cX9_isSaid 41 = .ok (.iconst 0, 1) := by decide +kernel
theorem dX9_isSaid_42 : decode cX9_isSaid 42 = .ok (.ireturn, 1) := by decide +kernel
theorem dX9_isSaid_43 : decode cX9_isSaid 43 = .ok (.iload 5, 2) := by decide +kernel
theorem dX9_isSaid_45 : decode cX9_isSaid 45 = .ok (.istore_n 3, 1) := by decide +kernel
theorem dX9_isSaid_46 : decode cX9_isSaid 46 = .ok (.iinc 4 1, 3) := by decide +kernel
theorem dX9_isSaid_49 : decode cX9_isSaid 49 = .ok (.goto (-42), 3) := by decide +kernel
theorem dX9_isSaid_52 : decode cX9_isSaid 52 = .ok (.iconst 1, 1) := by decide +kernel
theorem dX9_isSaid_53 : decode cX9_isSaid 53 = .ok (.ireturn, 1) := by decide +kernel
theorem dX9_said_0 : decode cX9_said 0 = .ok (.aload_n 0, 1) := by decide +kernel
theorem dX9_said_1 : decode cX9_said 1 = .ok (.iload_n 1, 1) := by decide +kernel
theorem dX9_said_2 : decode cX9_said 2 = .ok (.invokevirtual 177, 3) := by decide +kernel
theorem dX9_said_5 : decode cX9_said 5 = .ok (.ifCond .eq 16, 3) := by decide +kernel
theorem dX9_said_8 : decode cX9_said 8 = .ok (.iload_n 2, 1) := by decide +kernel
theorem dX9_said_9 : decode cX9_said 9 = .ok (.iconst (-1), 1) := by decide +kernel
theorem dX9_said_10 : decode cX9_said 10 = .ok (.if_icmp .eq 13, 3) := by decide +kernel
theorem dX9_said_13 : decode cX9_said 13 = .ok (.aload_n 0, 1) := by decide +kernel
theorem dX9_said_14 : decode cX9_said 14 = .ok (.iload_n 2, 1) := by decide +kernel
theorem dX9_said_15 : decode cX9_said 15 = .ok (.invokevirtual 186, 3) := by decide +kernel
theorem dX9_said_18 : decode cX9_said 18 = .ok (.ifCond .ne 5, 3) := by decide +kernel
theorem dX9_said_21 : decode cX9_said 21 = .ok (.iconst (-1), 1) := by decide +kernel
theorem dX9_said_22 : decode cX9_said 22 = .ok (.ireturn, 1) := by decide +kernel
theorem dX9_said_23 : decode cX9_said 23 = .ok (.iload_n 2, 1) := by decide +kernel
theorem dX9_said_24 : decode cX9_said 24 = .ok (.iconst (-1), 1) := by decide +kernel
theorem dX9_said_25 : decode cX9_said 25 = .ok (.if_icmp .eq 18, 3) := by decide +kernel
theorem dX9_said_28 : decode cX9_said 28 = .ok (.aload_n 0, 1) := by decide +kernel
theorem dX9_said_29 : decode cX9_said 29 = .ok (.iload_n 1, 1) := by decide +kernel
theorem dX9_said_30 : decode cX9_said 30 = .ok (.iload_n 2, 1) := by decide +kernel
theorem dX9_said_31 : decode cX9_said 31 = .ok (.invokevirtual 299, 3) := by decide +kernel
theorem dX9_said_34 : decode cX9_said 34 = .ok (.ifCond .eq 7, 3) := by decide +kernel
theorem dX9_said_37 : decode cX9_said 37 = .ok (.iconst 1, 1) := by decide +kernel
theorem dX9_said_38 : decode cX9_said 38 = .ok (.goto 4, 3) := by decide +kernel
theorem dX9_said_41 : decode cX9_said 41 = .ok (.iconst 0, 1) := by decide +kernel
theorem dX9_said_42 : decode cX9_said 42 = .ok (.ireturn, 1) := by decide +kernel
theorem dX9_said_43 : decode cX9_said 43 = .ok (.aload_n 0, 1) := by decide +kernel
theorem dX9_said_44 : decode cX9_said 44 = .ok (.getfield 99, 3) := by decide +kernel
theorem dX9_said_47 : decode cX9_said 47 = .ok (.bipush 6, 2) := by decide +kernel
theorem dX9_said_49 : decode cX9_said 49 = .ok (.if_icmp .le 6, 3) := by decide +kernel
theorem dX9_said_52 : decode cX9_said 52 = .ok (.bipush (-4), 2) := by decide +kernel
theorem dX9_said_54 : decode cX9_said 54 = .ok (.ireturn, 1) := by decide +kernel
theorem dX9_said_55 : decode cX9_said 55 = .ok (.iconst 0, 1) := by decide +kernel
theorem dX9_said_56 : decode cX9_said 56 = .ok (.istore_n 3, 1) := by decide +kernel
theorem dX9_said_57 : decode cX9_said 57 = .ok (.iload_n 3, 1) := by decide +kernel
theorem dX9_said_58 : decode cX9_said 58 = .ok (.aload_n 0, 1) := by decide +kernel
theorem dX9_said_59 : decode cX9_said 59 = .ok (.getfield 99, 3) := by decide +kernel
theorem dX9_said_62 : decode cX9_said 62 = .ok (.if_icmp .ge 50, 3) := by decide +kernel
theorem dX9_said_65 : decode cX9_said 65 = .ok (.iconst 0, 1) := by decide +kernel
theorem dX9_said_66 : decode cX9_said 66 = .ok (.istore 4, 2) := by decide +kernel
theorem dX9_said_68 : decode cX9_said 68 = .ok (.iload 4, 2) := by decide +kernel
theorem dX9_said_70 : decode cX9_said 70 = .ok (.aload_n 0, 1) := by decide +kernel
theorem dX9_said_71 : decode cX9_said 71 = .ok (.getfield 99, 3) := by decide +kernel
theorem dX9_said_74 : decode cX9_said 74 = .ok (.if_icmp .ge 32, 3) := by decide +kernel
theorem dX9_said_77 : decode cX9_said 77 = .ok (.aload_n 0, 1) := by decide +kernel
theorem dX9_said_78 : decode cX9_said 78 = .ok (.getfield 67, 3) := by decide +kernel
theorem dX9_said_81 : decode cX9_said 81 = .ok (.bipush 6, 2) := by decide +kernel
theorem dX9_said_83 : decode cX9_said 83 = .ok (.iload_n 3, 1) := by decide +kernel
theorem dX9_said_84 : decode cX9_said 84 = .ok (.imul, 1) := by decide +kernel
theorem dX9_said_85 : decode cX9_said 85 = .ok (.iload 4, 2) := by decide +kernel
theorem dX9_said_87 : decode cX9_said 87 = .ok (.iadd, 1) := by decide +kernel
theorem dX9_said_88 : decode cX9_said 88 = .ok (.aload_n 0, 1) := by decide +kernel
theorem dX9_said_89 : decode cX9_said 89 = .ok (.iload_n 1, 1) := by decide +kernel
theorem dX9_said_90 : decode cX9_said 90 = .ok (.iload_n 3, 1) := by decide +kernel
theorem dX9_said_91 : decode cX9_said 91 = .ok (.iconst 0, 1) := by decide +kernel
theorem dX9_said_92 : decode cX9_said 92 = .ok (.iload 4, 2) := by decide +kernel
theorem dX9_said_94 : decode cX9_said 94 = .ok (.iconst 0, 1) := by decide +kernel
theorem dX9_said_95 : decode cX9_said 95 = .ok (.iconst 0, 1) := by decide +kernel
theorem dX9_said_96 : decode cX9_said 96 = .ok (.invokevirtual 200, 3) := by decide +kernel
theorem dX9_said_99 : decode cX9_said 99 = .ok (.iastore, 1) := by decide +kernel
theorem dX9_said_100 : decode cX9_said 100 = .ok (.iinc 4 1, 3) := by decide +kernel
theorem dX9_said_103 : decode cX9_said 103 = .ok (.goto (-35), 3) := by decide +kernel
theorem dX9_said_106 : decode cX9_said 106 = .ok (.iinc 3 1, 3) := by decide +kernel
theorem dX9_said_109 : decode cX9_said 109 = .ok (.goto (-52), 3) := by decide +kernel
theorem dX9_said_112 : decode cX9_said 112 = .ok (.aload_n 0, 1) := by decide +kernel
theorem dX9_said_113 : decode cX9_said 113 = .ok (.iconst 0, 1) := by decide +kernel
theorem dX9_said_114 : decode cX9_said 114 = .ok (.iconst 0, 1) := by decide +kernel
theorem dX9_said_115 : decode cX9_said 115 = .ok (.sipush 9999, 3) := by decide +kernel
theorem dX9_said_118 : decode cX9_said 118 = .ok (.invokevirtual 295, 3) := by decide +kernel
theorem dX9_said_121 : decode cX9_said 121 = .ok (.ireturn, 1) := by decide +kernel
theorem dX9_unlikeBy_0 : decode cX9_unlikeBy 0 = .ok (.iconst 0, 1) := by decide +kernel
theorem dX9_unlikeBy_1 : decode cX9_unlikeBy 1 = .ok (.istore 4, 2) := by decide +kernel
theorem dX9_unlikeBy_3 : decode cX9_unlikeBy 3 = .ok (.iload 4, 2) := by decide +kernel
theorem dX9_unlikeBy_5 : decode cX9_unlikeBy 5 = .ok (.iconst 2, 1) := by decide +kernel
theorem dX9_unlikeBy_6 : decode cX9_unlikeBy 6 = .ok (.if_icmp .ge 38, 3) := by decide +kernel
theorem dX9_unlikeBy_9 : decode cX9_unlikeBy 9 = .ok (.aload_n 0, 1) := by decide +kernel
theorem dX9_unlikeBy_10 : decode cX9_unlikeBy 10 = .ok (.bipush 9, 2) := by decide +kernel
theorem dX9_unlikeBy_12 : decode cX9_unlikeBy 12 = .ok (.iload 4, 2) := by decide +kernel
theorem dX9_unlikeBy_14 : decode cX9_unlikeBy 14 = .ok (.iadd, 1) := by decide +kernel
theorem dX9_unlikeBy_15 : decode cX9_unlikeBy 15 = .ok (.iload_n 1, 1) := by decide +kernel
theorem dX9_unlikeBy_16 : decode cX9_unlikeBy 16 = .ok (.iconst 1, 1) := by decide +kernel
theorem dX9_unlikeBy_17 : decode cX9_unlikeBy 17 = .ok (.iconst 0, 1) := by decide +kernel
theorem dX9_unlikeBy_18 : decode cX9_unlikeBy 18 = .ok (.iconst 0, 1) := by decide +kernel
theorem dX9_unlikeBy_19 : decode cX9_unlikeBy 19 = .ok (.iload_n 3, 1) := by decide +kernel
theorem dX9_unlikeBy_20 : decode cX9_unlikeBy 20 = .ok (.iload 4, 2) := by decide +kernel
theorem dX9_unlikeBy_22 : decode cX9_unlikeBy 22 = .ok (.iadd, 1) := by decide +kernel
theorem dX9_unlikeBy_23 : decode cX9_unlikeBy 23 = .ok (.invokevirtual 182, 3) := by decide +kernel
theorem dX9_unlikeBy_26 : decode cX9_unlikeBy 26 = .ok (.aload_n 0, 1) := by decide +kernel
theorem dX9_unlikeBy_27 : decode cX9_unlikeBy 27 = .ok (.bipush 9, 2) := by decide +kernel
theorem dX9_unlikeBy_29 : decode cX9_unlikeBy 29 = .ok (.iload 4, 2) := by decide +kernel
theorem dX9_unlikeBy_31 : decode cX9_unlikeBy 31 = .ok (.iadd, 1) := by decide +kernel
theorem dX9_unlikeBy_32 : decode cX9_unlikeBy 32 = .ok (.iload_n 2, 1) := by decide +kernel
theorem dX9_unlikeBy_33 : decode cX9_unlikeBy 33 = .ok (.invokevirtual 236, 3) := by decide +kernel
theorem dX9_unlikeBy_36 : decode cX9_unlikeBy 36 = .ok (.istore 5, 2) := by decide +kernel
theorem dX9_unlikeBy_38 : decode cX9_unlikeBy 38 = .ok (.iinc 4 1, 3) := by decide +kernel
theorem dX9_unlikeBy_41 : decode cX9_unlikeBy 41 = .ok (.goto (-38), 3) := by decide +kernel
theorem dX9_unlikeBy_44 : decode cX9_unlikeBy 44 = .ok (.aload_n 0, 1) := by decide +kernel
theorem dX9_unlikeBy_45 : decode cX9_unlikeBy 45 = .ok (.bipush 9, 2) := by decide +kernel
theorem dX9_unlikeBy_47 : decode cX9_unlikeBy 47 = .ok (.bipush 10, 2) := by decide +kernel
theorem dX9_unlikeBy_49 : decode cX9_unlikeBy 49 = .ok (.invokevirtual 254, 3) := by decide +kernel
theorem dX9_unlikeBy_52 : decode cX9_unlikeBy 52 = .ok (.ireturn, 1) := by decide +kernel
theorem dX9_strong_0 : decode cX9_strong 0 = .ok (.iload_n 1, 1) := by decide +kernel
theorem dX9_strong_1 : decode cX9_strong 1 = .ok (.ifCond .lt 48, 3) := by decide +kernel
theorem dX9_strong_4 : decode cX9_strong 4 = .ok (.aload_n 0, 1) := by decide +kernel
theorem dX9_strong_5 : decode cX9_strong 5 = .ok (.iload_n 1, 1) := by decide +kernel
theorem dX9_strong_6 : decode cX9_strong 6 = .ok (.bipush 10, 2) := by decide +kernel
theorem dX9_strong_8 : decode cX9_strong 8 = .ok (.idiv, 1) := by decide +kernel
theorem dX9_strong_9 : decode cX9_strong 9 = .ok (.invokevirtual 177, 3) := by decide +kernel
theorem dX9_strong_12 : decode cX9_strong 12 = .ok (.ifCond .eq 37, 3) := by decide +kernel
theorem dX9_strong_15 : decode cX9_strong 15 = .ok (.aload_n 0, 1) := by decide +kernel
theorem dX9_strong_16 : decode cX9_strong 16 = .ok (.iload_n 1, 1) := by decide +kernel
theorem dX9_strong_17 : decode cX9_strong 17 = .ok (.bipush 10, 2) := by decide +kernel
theorem dX9_strong_19 : decode cX9_strong 19 = .ok (.irem, 1) := by decide +kernel
