theorem dX0_init_0 : decode cX0_init 0 = .ok (.aload_n 0, 1) := by decide +kernel
theorem dX0_init_1 : decode cX0_init 1 = .ok (.invokespecial 1, 3) := by decide +kernel
theorem dX0_init_4 : decode cX0_init 4 = .ok (.aload_n 0, 1) := by decide +kernel
theorem dX0_init_5 : decode cX0_init 5 = .ok (.bipush 50, 2) := by decide +kernel
theorem dX0_init_7 : decode cX0_init 7 = .ok (.newarray .int, 2) := by decide +kernel
theorem dX0_init_9 : decode cX0_init 9 = .ok (.putfield 9, 3) := by decide +kernel
theorem dX0_init_12 : decode cX0_init 12 = .ok (.aload_n 0, 1) := by decide +kernel
theorem dX0_init_13 : decode cX0_init 13 = .ok (.bipush 24, 2) := by decide +kernel
theorem dX0_init_15 : decode cX0_init 15 = .ok (.newarray .int, 2) := by decide +kernel
theorem dX0_init_17 : decode cX0_init 17 = .ok (.putfield 13, 3) := by decide +kernel
theorem dX0_init_20 : decode cX0_init 20 = .ok (.return_, 1) := by decide +kernel
theorem dX0_has_0 : decode cX0_has 0 = .ok (.iload_n 1, 1) := by decide +kernel
theorem dX0_has_1 : decode cX0_has 1 = .ok (.ifCond .lt 21, 3) := by decide +kernel
theorem dX0_has_4 : decode cX0_has 4 = .ok (.iload_n 1, 1) := by decide +kernel
theorem dX0_has_5 : decode cX0_has 5 = .ok (.aload_n 0, 1) := by decide +kernel
theorem dX0_has_6 : decode cX0_has 6 = .ok (.getfield 16, 3) := by decide +kernel
theorem dX0_has_9 : decode cX0_has 9 = .ok (.if_icmp .ge 13, 3) := by decide +kernel
theorem dX0_has_12 : decode cX0_has 12 = .ok (.iload_n 1, 1) := by decide +kernel
theorem dX0_has_13 : decode cX0_has 13 = .ok (.bipush 50, 2) := by decide +kernel
theorem dX0_has_15 : decode cX0_has 15 = .ok (.if_icmp .ge 7, 3) := by decide +kernel
theorem dX0_has_18 : decode cX0_has 18 = .ok (.iconst 1, 1) := by decide +kernel
theorem dX0_has_19 : decode cX0_has 19 = .ok (.goto 4, 3) := by decide +kernel
theorem dX0_has_22 : decode cX0_has 22 = .ok (.iconst 0, 1) := by decide +kernel
theorem dX0_has_23 : decode cX0_has 23 = .ok (.ireturn, 1) := by decide +kernel
theorem dX0_isUnder_0 : decode cX0_isUnder 0 = .ok (.iload_n 0, 1) := by decide +kernel
theorem dX0_isUnder_1 : decode cX0_isUnder 1 = .ok (.istore_n 2, 1) := by decide +kernel
theorem dX0_isUnder_2 : decode cX0_isUnder 2 = .ok (.iconst 0, 1) := by decide +kernel
theorem dX0_isUnder_3 : decode cX0_isUnder 3 = .ok (.istore_n 3, 1) := by decide +kernel
theorem dX0_isUnder_4 : decode cX0_isUnder 4 = .ok (.iload_n 3, 1) := by decide +kernel
theorem dX0_isUnder_5 : decode cX0_isUnder 5 = .ok (.bipush 8, 2) := by decide +kernel
theorem dX0_isUnder_7 : decode cX0_isUnder 7 = .ok (.if_icmp .ge 32, 3) := by decide +kernel
theorem dX0_isUnder_10 : decode cX0_isUnder 10 = .ok (.iload_n 2, 1) := by decide +kernel
theorem dX0_isUnder_11 : decode cX0_isUnder 11 = .ok (.ifCond .lt 28, 3) := by decide +kernel
theorem dX0_isUnder_14 : decode cX0_isUnder 14 = .ok (.iload_n 2, 1) := by decide +kernel
theorem dX0_isUnder_15 : decode cX0_isUnder 15 = .ok (.bipush 8, 2) := by decide +kernel
theorem dX0_isUnder_17 : decode cX0_isUnder 17 = .ok (.if_icmp .ge 22, 3) := by decide +kernel
theorem dX0_isUnder_20 : decode cX0_isUnder 20 = .ok (.iload_n 2, 1) := by decide +kernel
theorem dX0_isUnder_21 : decode cX0_isUnder 21 = .ok (.iload_n 1, 1) := by decide +kernel
theorem dX0_isUnder_22 : decode cX0_isUnder 22 = .ok (.if_icmp .ne 5, 3) := by decide +kernel
theorem dX0_isUnder_25 : decode cX0_isUnder 25 = .ok (.iconst 1, 1) := by decide +kernel
theorem dX0_isUnder_26 : decode cX0_isUnder 26 = .ok (.ireturn, 1) := by decide +kernel
theorem dX0_isUnder_27 : decode cX0_isUnder 27 = .ok (.getstatic 20, 3) := by decide +kernel
theorem dX0_isUnder_30 : decode cX0_isUnder 30 = .ok (.iload_n 2, 1) := by decide +kernel
theorem dX0_isUnder_31 : decode cX0_isUnder 31 = .ok (.iaload, 1) := by decide +kernel
theorem dX0_isUnder_32 : decode cX0_isUnder 32 = .ok (.istore_n 2, 1) := by decide +kernel
theorem dX0_isUnder_33 : decode cX0_isUnder 33 = .ok (.iinc 3 1, 3) := by decide +kernel
theorem dX0_isUnder_36 : decode cX0_isUnder 36 = .ok (.goto (-32), 3) := by decide +kernel
theorem dX0_isUnder_39 : decode cX0_isUnder 39 = .ok (.iconst 0, 1) := by decide +kernel
theorem dX0_isUnder_40 : decode cX0_isUnder 40 = .ok (.ireturn, 1) := by decide +kernel
theorem dX0_perform_0 : decode cX0_perform 0 = .ok (.aload_n 0, 1) := by decide +kernel
theorem dX0_perform_1 : decode cX0_perform 1 = .ok (.iconst 0, 1) := by decide +kernel
theorem dX0_perform_2 : decode cX0_perform 2 = .ok (.putfield 23, 3) := by decide +kernel
theorem dX0_perform_5 : decode cX0_perform 5 = .ok (.aload_n 0, 1) := by decide +kernel
theorem dX0_perform_6 : decode cX0_perform 6 = .ok (.iload_n 1, 1) := by decide +kernel
theorem dX0_perform_7 : decode cX0_perform 7 = .ok (.invokevirtual 26, 3) := by decide +kernel
theorem dX0_perform_10 : decode cX0_perform 10 = .ok (.ifCond .eq 12, 3) := by decide +kernel
theorem dX0_perform_13 : decode cX0_perform 13 = .ok (.iload_n 2, 1) := by decide +kernel
theorem dX0_perform_14 : decode cX0_perform 14 = .ok (.ifCond .lt 8, 3) := by decide +kernel
theorem dX0_perform_17 : decode cX0_perform 17 = .ok (.iload_n 2, 1) := by decide +kernel
theorem dX0_perform_18 : decode cX0_perform 18 = .ok (.iconst 4, 1) := by decide +kernel
theorem dX0_perform_19 : decode cX0_perform 19 = .ok (.if_icmp .lt 5, 3) := by decide +kernel
theorem dX0_perform_22 : decode cX0_perform 22 = .ok (.iconst 0, 1) := by decide +kernel
theorem dX0_perform_23 : decode cX0_perform 23 = .ok (.ireturn, 1) := by decide +kernel
theorem dX0_perform_24 : decode cX0_perform 24 = .ok (.aload_n 0, 1) := by decide +kernel
theorem dX0_perform_25 : decode cX0_perform 25 = .ok (.iload_n 1, 1) := by decide +kernel
theorem dX0_perform_26 : decode cX0_perform 26 = .ok (.putfield 30, 3) := by decide +kernel
theorem dX0_perform_29 : decode cX0_perform 29 = .ok (.aload_n 0, 1) := by decide +kernel
theorem dX0_perform_30 : decode cX0_perform 30 = .ok (.iload_n 2, 1) := by decide +kernel
theorem dX0_perform_31 : decode cX0_perform 31 = .ok (.iload_n 3, 1) := by decide +kernel
theorem dX0_perform_32 : decode cX0_perform 32 = .ok (.iconst 0, 1) := by decide +kernel
theorem dX0_perform_33 : decode cX0_perform 33 = .ok (.invokevirtual 33, 3) := by decide +kernel
theorem dX0_perform_36 : decode cX0_perform 36 = .ok (.ireturn, 1) := by decide +kernel
theorem dX0_own_0 : decode cX0_own 0 = .ok (.aload_n 0, 1) := by decide +kernel
theorem dX0_own_1 : decode cX0_own 1 = .ok (.aload_n 0, 1) := by decide +kernel
theorem dX0_own_2 : decode cX0_own 2 = .ok (.getfield 9, 3) := by decide +kernel
theorem dX0_own_5 : decode cX0_own 5 = .ok (.aload_n 0, 1) := by decide +kernel
theorem dX0_own_6 : decode cX0_own 6 = .ok (.getfield 30, 3) := by decide +kernel
theorem dX0_own_9 : decode cX0_own 9 = .ok (.iaload, 1) := by decide +kernel
theorem dX0_own_10 : decode cX0_own 10 = .ok (.iload_n 1, 1) := by decide +kernel
theorem dX0_own_11 : decode cX0_own 11 = .ok (.iload_n 2, 1) := by decide +kernel
theorem dX0_own_12 : decode cX0_own 12 = .ok (.iload_n 3, 1) := by decide +kernel
theorem dX0_own_13 : decode cX0_own 13 = .ok (.invokevirtual 37, 3) := by decide +kernel
theorem dX0_own_16 : decode cX0_own 16 = .ok (.ireturn, 1) := by decide +kernel
theorem dX0_above_0 : decode cX0_above 0 = .ok (.aload_n 0, 1) := by decide +kernel
theorem dX0_above_1 : decode cX0_above 1 = .ok (.getstatic 20, 3) := by decide +kernel
theorem dX0_above_4 : decode cX0_above 4 = .ok (.iload_n 1, 1) := by decide +kernel
theorem dX0_above_5 : decode cX0_above 5 = .ok (.iaload, 1) := by decide +kernel
theorem dX0_above_6 : decode cX0_above 6 = .ok (.iload_n 2, 1) := by decide +kernel
theorem dX0_above_7 : decode cX0_above 7 = .ok (.iload_n 3, 1) := by decide +kernel
theorem dX0_above_8 : decode cX0_above 8 = .ok (.iload 4, 2) := by decide +kernel
theorem dX0_above_10 : decode cX0_above 10 = .ok (.invokevirtual 37, 3) := by decide +kernel
theorem dX0_above_13 : decode cX0_above 13 = .ok (.ireturn, 1) := by decide +kernel
theorem dX0_ask_0 : decode cX0_ask 0 = .ok (.iload_n 1, 1) := by decide +kernel
theorem dX0_ask_1 : decode cX0_ask 1 = .ok (.istore 5, 2) := by decide +kernel
theorem dX0_ask_3 : decode cX0_ask 3 = .ok (.iconst 0, 1) := by decide +kernel
theorem dX0_ask_4 : decode cX0_ask 4 = .ok (.istore 6, 2) := by decide +kernel
theorem dX0_ask_6 : decode cX0_ask 6 = .ok (.iload 6, 2) := by decide +kernel
theorem dX0_ask_8 : decode cX0_ask 8 = .ok (.bipush 8, 2) := by decide +kernel
theorem dX0_ask_10 : decode cX0_ask 10 = .ok (.if_icmp .ge 35, 3) := by decide +kernel
theorem dX0_ask_13 : decode cX0_ask 13 = .ok (.iload 5, 2) := by decide +kernel
theorem dX0_ask_15 : decode cX0_ask 15 = .ok (.ifCond .le 30, 3) := by decide +kernel
theorem dX0_ask_18 : decode cX0_ask 18 = .ok (.getstatic 41, 3) := by decide +kernel
theorem dX0_ask_21 : decode cX0_ask 21 = .ok (.iload 5, 2) := by decide +kernel
theorem dX0_ask_23 : decode cX0_ask 23 = .ok (.iconst 4, 1) := by decide +kernel
theorem dX0_ask_24 : decode cX0_ask 24 = .ok (.imul, 1) := by decide +kernel
theorem dX0_ask_25 : decode cX0_ask 25 = .ok (.iload_n 2, 1) := by decide +kernel
theorem dX0_ask_26 : decode cX0_ask 26 = .ok (.iadd, 1) := by decide +kernel
theorem dX0_ask_27 : decode cX0_ask 27 = .ok (.iaload, 1) := by decide +kernel
theorem dX0_ask_28 : decode cX0_ask 28 = .ok (.ifCond .ne 17, 3) := by decide +kernel
theorem dX0_ask_31 : decode cX0_ask 31 = .ok (.getstatic 20, 3) := by decide +kernel
theorem dX0_ask_34 : decode cX0_ask 34 = .ok (.iload 5, 2) := by decide +kernel
theorem dX0_ask_36 : decode cX0_ask 36 = .ok (.iaload, 1) := by decide +kernel
theorem dX0_ask_37 : decode cX0_ask 37 = .ok (.istore 5, 2) := by decide +kernel
theorem dX0_ask_39 : decode cX0_ask 39 = .ok (.iinc 6 1, 3) := by decide +kernel
theorem dX0_ask_42 : decode cX0_ask 42 = .ok (.goto (-36), 3) := by decide +kernel
theorem dX0_ask_45 : decode cX0_ask 45 = .ok (.iload 5, 2) := by decide +kernel
theorem dX0_ask_47 : decode cX0_ask 47 = .ok (.ifCond .lt 10, 3) := by decide +kernel
theorem dX0_ask_50 : decode cX0_ask 50 = .ok (.iload 4, 2) := by decide +kernel
theorem dX0_ask_52 : decode cX0_ask 52 = .ok (.bipush 30, 2) := by decide +kernel
theorem dX0_ask_54 : decode cX0_ask 54 = .ok (.if_icmp .le 5, 3) := by decide +kernel
theorem dX0_ask_57 : decode cX0_ask 57 = .ok (.iconst 0, 1) := by decide +kernel
theorem dX0_ask_58 : decode cX0_ask 58 = .ok (.ireturn, 1) := by decide +kernel
theorem dX0_ask_59 : decode cX0_ask 59 = .ok (.aload_n 0, 1) := by decide +kernel
theorem dX0_ask_60 : decode cX0_ask 60 = .ok (.getstatic 41, 3) := by decide +kernel
theorem dX0_ask_63 : decode cX0_ask 63 = .ok (.iload 5, 2) := by decide +kernel
theorem dX0_ask_65 : decode cX0_ask 65 = .ok (.iconst 4, 1) := by decide +kernel
theorem dX0_ask_66 : decode cX0_ask 66 = .ok (.imul, 1) := by decide +kernel
theorem dX0_ask_67 : decode cX0_ask 67 = .ok (.iload_n 2, 1) := by decide +kernel
theorem dX0_ask_68 : decode cX0_ask 68 = .ok (.iadd, 1) := by decide +kernel
theorem dX0_ask_69 : decode cX0_ask 69 = .ok (.iaload, 1) := by decide +kernel
theorem dX0_ask_70 : decode cX0_ask 70 = .ok (.iload 5, 2) := by decide +kernel
theorem dX0_ask_72 : decode cX0_ask 72 = .ok (.iload_n 3, 1) := by decide +kernel
theorem dX0_ask_73 : decode cX0_ask 73 = .ok (.iload 4, 2) := by decide +kernel
theorem dX0_ask_75 : decode cX0_ask 75 = .ok (.iconst 1, 1) := by decide +kernel
theorem dX0_ask_76 : decode cX0_ask 76 = .ok (.iadd, 1) := by decide +kernel
theorem dX0_ask_77 : decode cX0_ask 77 = .ok (.invokevirtual 44, 3) := by decide +kernel
theorem dX0_ask_80 : decode cX0_ask 80 = .ok (.ireturn, 1) := by decide +kernel
theorem dX0_run_0 : decode cX0_run 0 = .ok (.aload_n 0, 1) := by decide +kernel
theorem dX0_run_1 : decode cX0_run 1 = .ok (.getfield 23, 3) := by decide +kernel
theorem dX0_run_4 : decode cX0_run 4 = .ok (.bipush 24, 2) := by decide +kernel
theorem dX0_run_6 : decode cX0_run 6 = .ok (.if_icmp .ge 13, 3) := by decide +kernel
theorem dX0_run_9 : decode cX0_run 9 = .ok (.aload_n 0, 1) := by decide +kernel
theorem dX0_run_10 : decode cX0_run 10 = .ok (.getfield 13, 3) := by decide +kernel
theorem dX0_run_13 : decode cX0_run 13 = .ok (.aload_n 0, 1) := by decide +kernel
theorem dX0_run_14 : decode cX0_run 14 = .ok (.getfield 23, 3) := by decide +kernel
theorem dX0_run_17 : decode cX0_run 17 = .ok (.iload_n 1, 1) := by decide +kernel
theorem dX0_run_18 : decode cX0_run 18 = .ok (.iastore, 1) := by decide +kernel
theorem dX0_run_19 : decode cX0_run 19 = .ok (.aload_n 0, 1) := by decide +kernel
theorem dX0_run_20 : decode cX0_run 20 = .ok (.dup, 1) := by decide +kernel
theorem dX0_run_21 : decode cX0_run 21 = .ok (.getfield 23, 3) := by decide +kernel
theorem dX0_run_24 : decode cX0_run 24 = .ok (.iconst 1, 1) := by decide +kernel
theorem dX0_run_25 : decode cX0_run 25 = .ok (.iadd, 1) := by decide +kernel
theorem dX0_run_26 : decode cX0_run 26 = .ok (.putfield 23, 3) := by decide +kernel
theorem dX0_run_29 : decode cX0_run 29 = .ok (.iload_n 1, 1) := by decide +kernel
theorem dX0_run_30 : decode cX0_run 30 = .ok (.lookupswitch 278 #[(1, 114), (2, 121), (10, 139), (11, 150), (20, 157), (30, 169), (40, 180), (41, 192), (50, 204), (60, 223), (70, 235), (80, 247), (81, 266)], 114) := by decide +kernel
theorem dX0_run_144 : decode cX0_run 144 = .ok (.iload_n 3, 1) := by decide +kernel
theorem dX0_run_145 : decode cX0_run 145 = .ok (.aload_n 0, 1) := by decide +kernel
theorem dX0_run_146 : decode cX0_run 146 = .ok (.getfield 30, 3) := by decide +kernel
theorem dX0_run_149 : decode cX0_run 149 = .ok (.iadd, 1) := by decide +kernel
theorem dX0_run_150 : decode cX0_run 150 = .ok (.ireturn, 1) := by decide +kernel
theorem dX0_run_151 : decode cX0_run 151 = .ok (.aload_n 0, 1) := by decide +kernel
theorem dX0_run_152 : decode cX0_run 152 = .ok (.iconst 1, 1) := by decide +kernel
theorem dX0_run_153 : decode cX0_run 153 = .ok (.iload_n 3, 1) := by decide +kernel
theorem dX0_run_154 : decode cX0_run 154 = .ok (.iload 4, 2) := by decide +kernel
theorem dX0_run_156 : decode cX0_run 156 = .ok (.invokevirtual 33, 3) := by decide +kernel
theorem dX0_run_159 : decode cX0_run 159 = .ok (.aload_n 0, 1) := by decide +kernel
theorem dX0_run_160 : decode cX0_run 160 = .ok (.iconst 2, 1) := by decide +kernel
theorem dX0_run_161 : decode cX0_run 161 = .ok (.iconst 1, 1) := by decide +kernel
theorem dX0_run_162 : decode cX0_run 162 = .ok (.iload 4, 2) := by decide +kernel
theorem dX0_run_164 : decode cX0_run 164 = .ok (.invokevirtual 33, 3) := by decide +kernel
theorem dX0_run_167 : decode cX0_run 167 = .ok (.isub, 1) := by decide +kernel
theorem dX0_run_168 : decode cX0_run 168 = .ok (.ireturn, 1) := by decide +kernel
theorem dX0_run_169 : decode cX0_run 169 = .ok (.aload_n 0, 1) := by decide +kernel
theorem dX0_run_170 : decode cX0_run 170 = .ok (.iconst 0, 1) := by decide +kernel
theorem dX0_run_171 : decode cX0_run 171 = .ok (.iload_n 3, 1) := by decide +kernel
theorem dX0_run_172 : decode cX0_run 172 = .ok (.iload 4, 2) := by decide +kernel
theorem dX0_run_174 : decode cX0_run 174 = .ok (.invokevirtual 33, 3) := by decide +kernel
theorem dX0_run_177 : decode cX0_run 177 = .ok (.iconst 2, 1) := by decide +kernel
theorem dX0_run_178 : decode cX0_run 178 = .ok (.imul, 1) := by decide +kernel
theorem dX0_run_179 : decode cX0_run 179 = .ok (.ireturn, 1) := by decide +kernel
theorem dX0_run_180 : decode cX0_run 180 = .ok (.iload_n 3, 1) := by decide +kernel
theorem dX0_run_181 : decode cX0_run 181 = .ok (.aload_n 0, 1) := by decide +kernel
theorem dX0_run_182 : decode cX0_run 182 = .ok (.getfield 30, 3) := by decide +kernel
theorem dX0_run_185 : decode cX0_run 185 = .ok (.ixor, 1) := by decide +kernel
theorem dX0_run_186 : decode cX0_run 186 = .ok (.ireturn, 1) := by decide +kernel
theorem dX0_run_187 : decode cX0_run 187 = .ok (.aload_n 0, 1) := by decide +kernel
theorem dX0_run_188 : decode cX0_run 188 = .ok (.iload_n 2, 1) := by decide +kernel
theorem dX0_run_189 : decode cX0_run 189 = .ok (.iconst 0, 1) := by decide +kernel
theorem dX0_run_190 : decode cX0_run 190 = .ok (.iload_n 3, 1) := by decide +kernel
theorem dX0_run_191 : decode cX0_run 191 = .ok (.iload 4, 2) := by decide +kernel
theorem dX0_run_193 : decode cX0_run 193 = .ok (.invokevirtual 47, 3) := by decide +kernel
theorem dX0_run_196 : decode cX0_run 196 = .ok (.iconst 3, 1) := by decide +kernel
theorem dX0_run_197 : decode cX0_run 197 = .ok (.iadd, 1) := by decide +kernel
theorem dX0_run_198 : decode cX0_run 198 = .ok (.ireturn, 1) := by decide +kernel
theorem dX0_run_199 : decode cX0_run 199 = .ok (.aload_n 0, 1) := by decide +kernel
theorem dX0_run_200 : decode cX0_run 200 = .ok (.iload_n 2, 1) := by decide +kernel
theorem dX0_run_201 : decode cX0_run 201 = .ok (.iconst 1, 1) := by decide +kernel
theorem dX0_run_202 : decode cX0_run 202 = .ok (.iload_n 3, 1) := by decide +kernel
theorem dX0_run_203 : decode cX0_run 203 = .ok (.iload 4, 2) := by decide +kernel
theorem dX0_run_205 : decode cX0_run 205 = .ok (.invokevirtual 47, 3) := by decide +kernel
theorem dX0_run_208 : decode cX0_run 208 = .ok (.ineg, 1) := by decide +kernel
theorem dX0_run_209 : decode cX0_run 209 = .ok (.ireturn, 1) := by decide +kernel
theorem dX0_run_210 : decode cX0_run 210 = .ok (.aload_n 0, 1) := by decide +kernel
theorem dX0_run_211 : decode cX0_run 211 = .ok (.iload_n 2, 1) := by decide +kernel
theorem dX0_run_212 : decode cX0_run 212 = .ok (.iconst 2, 1) := by decide +kernel
theorem dX0_run_213 : decode cX0_run 213 = .ok (.iload_n 3, 1) := by decide +kernel
theorem dX0_run_214 : decode cX0_run 214 = .ok (.iload 4, 2) := by decide +kernel
theorem dX0_run_216 : decode cX0_run 216 = .ok (.invokevirtual 47, 3) := by decide +kernel
theorem dX0_run_219 : decode cX0_run 219 = .ok (.iconst 3, 1) := by decide +kernel
theorem dX0_run_220 : decode cX0_run 220 = .ok (.imul, 1) := by decide +kernel
theorem dX0_run_221 : decode cX0_run 221 = .ok (.ireturn, 1) := by decide +kernel
theorem dX0_run_222 : decode cX0_run 222 = .ok (.aload_n 0, 1) := by decide +kernel
theorem dX0_run_223 : decode cX0_run 223 = .ok (.iload_n 2, 1) := by decide +kernel
theorem dX0_run_224 : decode cX0_run 224 = .ok (.iconst 1, 1) := by decide +kernel
theorem dX0_run_225 : decode cX0_run 225 = .ok (.iload_n 3, 1) := by decide +kernel
theorem dX0_run_226 : decode cX0_run 226 = .ok (.iconst 1, 1) := by decide +kernel
theorem dX0_run_227 : decode cX0_run 227 = .ok (.iadd, 1) := by decide +kernel
theorem dX0_run_228 : decode cX0_run 228 = .ok (.iload 4, 2) := by decide +kernel
theorem dX0_run_230 : decode cX0_run 230 = .ok (.invokevirtual 47, 3) := by decide +kernel
theorem dX0_run_233 : decode cX0_run 233 = .ok (.ireturn, 1) := by decide +kernel
theorem dX0_run_234 : decode cX0_run 234 = .ok (.aload_n 0, 1) := by decide +kernel
theorem dX0_run_235 : decode cX0_run 235 = .ok (.iload_n 2, 1) := by decide +kernel
theorem dX0_run_236 : decode cX0_run 236 = .ok (.iconst 2, 1) := by decide +kernel
theorem dX0_run_237 : decode cX0_run 237 = .ok (.iload_n 3, 1) := by decide +kernel
theorem dX0_run_238 : decode cX0_run 238 = .ok (.iload 4, 2) := by decide +kernel
theorem dX0_run_240 : decode cX0_run 240 = .ok (.invokevirtual 47, 3) := by decide +kernel
theorem dX0_run_243 : decode cX0_run 243 = .ok (.aload_n 0, 1) := by decide +kernel
theorem dX0_run_244 : decode cX0_run 244 = .ok (.iconst 0, 1) := by decide +kernel
theorem dX0_run_245 : decode cX0_run 245 = .ok (.iconst 2, 1) := by decide +kernel
theorem dX0_run_246 : decode cX0_run 246 = .ok (.iload 4, 2) := by decide +kernel
theorem dX0_run_248 : decode cX0_run 248 = .ok (.invokevirtual 33, 3) := by decide +kernel
theorem dX0_run_251 : decode cX0_run 251 = .ok (.isub, 1) := by decide +kernel
theorem dX0_run_252 : decode cX0_run 252 = .ok (.ireturn, 1) := by decide +kernel
theorem dX0_run_253 : decode cX0_run 253 = .ok (.aload_n 0, 1) := by decide +kernel
theorem dX0_run_254 : decode cX0_run 254 = .ok (.iload_n 2, 1) := by decide +kernel
theorem dX0_run_255 : decode cX0_run 255 = .ok (.iconst 3, 1) := by decide +kernel
theorem dX0_run_256 : decode cX0_run 256 = .ok (.iload_n 3, 1) := by decide +kernel
theorem dX0_run_257 : decode cX0_run 257 = .ok (.iload 4, 2) := by decide +kernel
theorem dX0_run_259 : decode cX0_run 259 = .ok (.invokevirtual 47, 3) := by decide +kernel
theorem dX0_run_262 : decode cX0_run 262 = .ok (.iconst 5, 1) := by decide +kernel
theorem dX0_run_263 : decode cX0_run 263 = .ok (.ixor, 1) := by decide +kernel
theorem dX0_run_264 : decode cX0_run 264 = .ok (.ireturn, 1) := by decide +kernel
theorem dX0_run_265 : decode cX0_run 265 = .ok (.aload_n 0, 1) := by decide +kernel
theorem dX0_run_266 : decode cX0_run 266 = .ok (.iload_n 2, 1) := by decide +kernel
theorem dX0_run_267 : decode cX0_run 267 = .ok (.iconst 0, 1) := by decide +kernel
theorem dX0_run_268 : decode cX0_run 268 = .ok (.iload_n 3, 1) := by decide +kernel
theorem dX0_run_269 : decode cX0_run 269 = .ok (.iload 4, 2) := by decide +kernel
theorem dX0_run_271 : decode cX0_run 271 = .ok (.invokevirtual 47, 3) := by decide +kernel
theorem dX0_run_274 : decode cX0_run 274 = .ok (.iconst 2, 1) := by decide +kernel
theorem dX0_run_275 : decode cX0_run 275 = .ok (.imul, 1) := by decide +kernel
theorem dX0_run_276 : decode cX0_run 276 = .ok (.ireturn, 1) := by decide +kernel
theorem dX0_run_277 : decode cX0_run 277 = .ok (.aload_n 0, 1) := by decide +kernel
theorem dX0_run_278 : decode cX0_run 278 = .ok (.iload_n 2, 1) := by decide +kernel
theorem dX0_run_279 : decode cX0_run 279 = .ok (.iconst 1, 1) := by decide +kernel
theorem dX0_run_280 : decode cX0_run 280 = .ok (.iload_n 3, 1) := by decide +kernel
theorem dX0_run_281 : decode cX0_run 281 = .ok (.iload 4, 2) := by decide +kernel
theorem dX0_run_283 : decode cX0_run 283 = .ok (.invokevirtual 47, 3) := by decide +kernel
theorem dX0_run_286 : decode cX0_run 286 = .ok (.aload_n 0, 1) := by decide +kernel
theorem dX0_run_287 : decode cX0_run 287 = .ok (.iconst 2, 1) := by decide +kernel
theorem dX0_run_288 : decode cX0_run 288 = .ok (.iconst 2, 1) := by decide +kernel
theorem dX0_run_289 : decode cX0_run 289 = .ok (.iload 4, 2) := by decide +kernel
theorem dX0_run_291 : decode cX0_run 291 = .ok (.invokevirtual 33, 3) := by decide +kernel
theorem dX0_run_294 : decode cX0_run 294 = .ok (.iadd, 1) := by decide +kernel
theorem dX0_run_295 : decode cX0_run 295 = .ok (.ireturn, 1) := by decide +kernel
theorem dX0_run_296 : decode cX0_run 296 = .ok (.aload_n 0, 1) := by decide +kernel
theorem dX0_run_297 : decode cX0_run 297 = .ok (.iload_n 2, 1) := by decide +kernel
theorem dX0_run_298 : decode cX0_run 298 = .ok (.iconst 3, 1) := by decide +kernel
theorem dX0_run_299 : decode cX0_run 299 = .ok (.iload_n 3, 1) := by decide +kernel
theorem dX0_run_300 : decode cX0_run 300 = .ok (.iload 4, 2) := by decide +kernel
theorem dX0_run_302 : decode cX0_run 302 = .ok (.invokevirtual 47, 3) := by decide +kernel
theorem dX0_run_305 : decode cX0_run 305 = .ok (.iconst 1, 1) := by decide +kernel
theorem dX0_run_306 : decode cX0_run 306 = .ok (.isub, 1) := by decide +kernel
theorem dX0_run_307 : decode cX0_run 307 = .ok (.ireturn, 1) := by decide +kernel
theorem dX0_run_308 : decode cX0_run 308 = .ok (.iconst 0, 1) := by decide +kernel
theorem dX0_run_309 : decode cX0_run 309 = .ok (.ireturn, 1) := by decide +kernel
