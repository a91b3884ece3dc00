theorem dX2_init_0 : decode cX2_init 0 = .ok (.aload_n 0, 1) := by decide +kernel
theorem dX2_init_1 : decode cX2_init 1 = .ok (.invokespecial 3, 3) := by decide +kernel
theorem dX2_init_4 : decode cX2_init 4 = .ok (.aload_n 0, 1) := by decide +kernel
theorem dX2_init_5 : decode cX2_init 5 = .ok (.bipush 64, 2) := by decide +kernel
theorem dX2_init_7 : decode cX2_init 7 = .ok (.newarray .int, 2) := by decide +kernel
theorem dX2_init_9 : decode cX2_init 9 = .ok (.putfield 11, 3) := by decide +kernel
theorem dX2_init_12 : decode cX2_init 12 = .ok (.aload_n 0, 1) := by decide +kernel
theorem dX2_init_13 : decode cX2_init 13 = .ok (.aload_n 1, 1) := by decide +kernel
theorem dX2_init_14 : decode cX2_init 14 = .ok (.putfield 15, 3) := by decide +kernel
theorem dX2_init_17 : decode cX2_init 17 = .ok (.return_, 1) := by decide +kernel
theorem dX2_weigh_0 : decode cX2_weigh 0 = .ok (.iconst 2, 1) := by decide +kernel
theorem dX2_weigh_1 : decode cX2_weigh 1 = .ok (.istore_n 2, 1) := by decide +kernel
theorem dX2_weigh_2 : decode cX2_weigh 2 = .ok (.iconst 0, 1) := by decide +kernel
theorem dX2_weigh_3 : decode cX2_weigh 3 = .ok (.istore_n 3, 1) := by decide +kernel
theorem dX2_weigh_4 : decode cX2_weigh 4 = .ok (.iload_n 3, 1) := by decide +kernel
theorem dX2_weigh_5 : decode cX2_weigh 5 = .ok (.aload_n 0, 1) := by decide +kernel
theorem dX2_weigh_6 : decode cX2_weigh 6 = .ok (.getfield 15, 3) := by decide +kernel
theorem dX2_weigh_9 : decode cX2_weigh 9 = .ok (.arraylength, 1) := by decide +kernel
theorem dX2_weigh_10 : decode cX2_weigh 10 = .ok (.if_icmp .ge 254, 3) := by decide +kernel
theorem dX2_weigh_13 : decode cX2_weigh 13 = .ok (.iload_n 2, 1) := by decide +kernel
theorem dX2_weigh_14 : decode cX2_weigh 14 = .ok (.iconst 2, 1) := by decide +kernel
theorem dX2_weigh_15 : decode cX2_weigh 15 = .ok (.if_icmp .lt 9, 3) := by decide +kernel
theorem dX2_weigh_18 : decode cX2_weigh 18 = .ok (.iload_n 2, 1) := by decide +kernel
theorem dX2_weigh_19 : decode cX2_weigh 19 = .ok (.bipush 64, 2) := by decide +kernel
theorem dX2_weigh_21 : decode cX2_weigh 21 = .ok (.if_icmp .lt 5, 3) := by decide +kernel
theorem dX2_weigh_24 : decode cX2_weigh 24 = .ok (.iconst 0, 1) := by decide +kernel
theorem dX2_weigh_25 : decode cX2_weigh 25 = .ok (.ireturn, 1) := by decide +kernel
theorem dX2_weigh_26 : decode cX2_weigh 26 = .ok (.aload_n 0, 1) := by decide +kernel
theorem dX2_weigh_27 : decode cX2_weigh 27 = .ok (.getfield 15, 3) := by decide +kernel
theorem dX2_weigh_30 : decode cX2_weigh 30 = .ok (.iload_n 3, 1) := by decide +kernel
theorem dX2_weigh_31 : decode cX2_weigh 31 = .ok (.iaload, 1) := by decide +kernel
theorem dX2_weigh_32 : decode cX2_weigh 32 = .ok (.sipush 255, 3) := by decide +kernel
theorem dX2_weigh_35 : decode cX2_weigh 35 = .ok (.iand, 1) := by decide +kernel
theorem dX2_weigh_36 : decode cX2_weigh 36 = .ok (.istore 4, 2) := by decide +kernel
theorem dX2_weigh_38 : decode cX2_weigh 38 = .ok (.aload_n 0, 1) := by decide +kernel
theorem dX2_weigh_39 : decode cX2_weigh 39 = .ok (.getfield 15, 3) := by decide +kernel
theorem dX2_weigh_42 : decode cX2_weigh 42 = .ok (.iload_n 3, 1) := by decide +kernel
theorem dX2_weigh_43 : decode cX2_weigh 43 = .ok (.iaload, 1) := by decide +kernel
theorem dX2_weigh_44 : decode cX2_weigh 44 = .ok (.bipush 8, 2) := by decide +kernel
theorem dX2_weigh_46 : decode cX2_weigh 46 = .ok (.ishr, 1) := by decide +kernel
theorem dX2_weigh_47 : decode cX2_weigh 47 = .ok (.istore 5, 2) := by decide +kernel
theorem dX2_weigh_49 : decode cX2_weigh 49 = .ok (.iload 4, 2) := by decide +kernel
theorem dX2_weigh_51 : decode cX2_weigh 51 = .ok (.tableswitch 177 0 5 #[37, 51, 83, 110, 130, 158], 37) := by decide +kernel
theorem dX2_weigh_88 : decode cX2_weigh 88 = .ok (.aload_n 0, 1) := by decide +kernel
theorem dX2_weigh_89 : decode cX2_weigh 89 = .ok (.getfield 11, 3) := by decide +kernel
theorem dX2_weigh_92 : decode cX2_weigh 92 = .ok (.iload_n 2, 1) := by decide +kernel
theorem dX2_weigh_93 : decode cX2_weigh 93 = .ok (.iload 5, 2) := by decide +kernel
theorem dX2_weigh_95 : decode cX2_weigh 95 = .ok (.iastore, 1) := by decide +kernel
theorem dX2_weigh_96 : decode cX2_weigh 96 = .ok (.iinc 2 1, 3) := by decide +kernel
theorem dX2_weigh_99 : decode cX2_weigh 99 = .ok (.goto 159, 3) := by decide +kernel
theorem dX2_weigh_102 : decode cX2_weigh 102 = .ok (.aload_n 0, 1) := by decide +kernel
theorem dX2_weigh_103 : decode cX2_weigh 103 = .ok (.getfield 11, 3) := by decide +kernel
theorem dX2_weigh_106 : decode cX2_weigh 106 = .ok (.iload_n 2, 1) := by decide +kernel
theorem dX2_weigh_107 : decode cX2_weigh 107 = .ok (.iload 5, 2) := by decide +kernel
theorem dX2_weigh_109 : decode cX2_weigh 109 = .ok (.ifCond .lt 17, 3) := by decide +kernel
theorem dX2_weigh_112 : decode cX2_weigh 112 = .ok (.iload 5, 2) := by decide +kernel
theorem dX2_weigh_114 : decode cX2_weigh 114 = .ok (.aload_n 1, 1) := by decide +kernel
theorem dX2_weigh_115 : decode cX2_weigh 115 = .ok (.arraylength, 1) := by decide +kernel
theorem dX2_weigh_116 : decode cX2_weigh 116 = .ok (.if_icmp .ge 10, 3) := by decide +kernel
theorem dX2_weigh_119 : decode cX2_weigh 119 = .ok (.aload_n 1, 1) := by decide +kernel
theorem dX2_weigh_120 : decode cX2_weigh 120 = .ok (.iload 5, 2) := by decide +kernel
theorem dX2_weigh_122 : decode cX2_weigh 122 = .ok (.iaload, 1) := by decide +kernel
theorem dX2_weigh_123 : decode cX2_weigh 123 = .ok (.goto 4, 3) := by decide +kernel
theorem dX2_weigh_126 : decode cX2_weigh 126 = .ok (.iconst 0, 1) := by decide +kernel
theorem dX2_weigh_127 : decode cX2_weigh 127 = .ok (.iastore, 1) := by decide +kernel
theorem dX2_weigh_128 : decode cX2_weigh 128 = .ok (.iinc 2 1, 3) := by decide +kernel
theorem dX2_weigh_131 : decode cX2_weigh 131 = .ok (.goto 127, 3) := by decide +kernel
theorem dX2_weigh_134 : decode cX2_weigh 134 = .ok (.aload_n 0, 1) := by decide +kernel
theorem dX2_weigh_135 : decode cX2_weigh 135 = .ok (.getfield 11, 3) := by decide +kernel
theorem dX2_weigh_138 : decode cX2_weigh 138 = .ok (.iload_n 2, 1) := by decide +kernel
theorem dX2_weigh_139 : decode cX2_weigh 139 = .ok (.iconst 1, 1) := by decide +kernel
theorem dX2_weigh_140 : decode cX2_weigh 140 = .ok (.isub, 1) := by decide +kernel
theorem dX2_weigh_141 : decode cX2_weigh 141 = .ok (.aload_n 0, 1) := by decide +kernel
theorem dX2_weigh_142 : decode cX2_weigh 142 = .ok (.getfield 11, 3) := by decide +kernel
theorem dX2_weigh_145 : decode cX2_weigh 145 = .ok (.iload_n 2, 1) := by decide +kernel
theorem dX2_weigh_146 : decode cX2_weigh 146 = .ok (.iconst 1, 1) := by decide +kernel
theorem dX2_weigh_147 : decode cX2_weigh 147 = .ok (.isub, 1) := by decide +kernel
theorem dX2_weigh_148 : decode cX2_weigh 148 = .ok (.iaload, 1) := by decide +kernel
theorem dX2_weigh_149 : decode cX2_weigh 149 = .ok (.ifCond .ne 7, 3) := by decide +kernel
theorem dX2_weigh_152 : decode cX2_weigh 152 = .ok (.iconst 1, 1) := by decide +kernel
theorem dX2_weigh_153 : decode cX2_weigh 153 = .ok (.goto 4, 3) := by decide +kernel
theorem dX2_weigh_156 : decode cX2_weigh 156 = .ok (.iconst 0, 1) := by decide +kernel
theorem dX2_weigh_157 : decode cX2_weigh 157 = .ok (.iastore, 1) := by decide +kernel
theorem dX2_weigh_158 : decode cX2_weigh 158 = .ok (.goto 100, 3) := by decide +kernel
theorem dX2_weigh_161 : decode cX2_weigh 161 = .ok (.aload_n 0, 1) := by decide +kernel
theorem dX2_weigh_162 : decode cX2_weigh 162 = .ok (.getfield 11, 3) := by decide +kernel
theorem dX2_weigh_165 : decode cX2_weigh 165 = .ok (.iload_n 2, 1) := by decide +kernel
theorem dX2_weigh_166 : decode cX2_weigh 166 = .ok (.iconst 1, 1) := by decide +kernel
theorem dX2_weigh_167 : decode cX2_weigh 167 = .ok (.isub, 1) := by decide +kernel
theorem dX2_weigh_168 : decode cX2_weigh 168 = .ok (.aload_n 0, 1) := by decide +kernel
theorem dX2_weigh_169 : decode cX2_weigh 169 = .ok (.getfield 11, 3) := by decide +kernel
theorem dX2_weigh_172 : decode cX2_weigh 172 = .ok (.iload_n 2, 1) := by decide +kernel
theorem dX2_weigh_173 : decode cX2_weigh 173 = .ok (.iconst 1, 1) := by decide +kernel
theorem dX2_weigh_174 : decode cX2_weigh 174 = .ok (.isub, 1) := by decide +kernel
theorem dX2_weigh_175 : decode cX2_weigh 175 = .ok (.iaload, 1) := by decide +kernel
theorem dX2_weigh_176 : decode cX2_weigh 176 = .ok (.ineg, 1) := by decide +kernel
theorem dX2_weigh_177 : decode cX2_weigh 177 = .ok (.iastore, 1) := by decide +kernel
theorem dX2_weigh_178 : decode cX2_weigh 178 = .ok (.goto 80, 3) := by decide +kernel
theorem dX2_weigh_181 : decode cX2_weigh 181 = .ok (.iinc 2 (-1), 3) := by decide +kernel
theorem dX2_weigh_184 : decode cX2_weigh 184 = .ok (.aload_n 0, 1) := by decide +kernel
theorem dX2_weigh_185 : decode cX2_weigh 185 = .ok (.getfield 11, 3) := by decide +kernel
theorem dX2_weigh_188 : decode cX2_weigh 188 = .ok (.iload_n 2, 1) := by decide +kernel
theorem dX2_weigh_189 : decode cX2_weigh 189 = .ok (.iaload, 1) := by decide +kernel
theorem dX2_weigh_190 : decode cX2_weigh 190 = .ok (.ifCond .ne 14, 3) := by decide +kernel
theorem dX2_weigh_193 : decode cX2_weigh 193 = .ok (.iload_n 3, 1) := by decide +kernel
theorem dX2_weigh_194 : decode cX2_weigh 194 = .ok (.iload 5, 2) := by decide +kernel
theorem dX2_weigh_196 : decode cX2_weigh 196 = .ok (.iconst 1, 1) := by decide +kernel
theorem dX2_weigh_197 : decode cX2_weigh 197 = .ok (.isub, 1) := by decide +kernel
theorem dX2_weigh_198 : decode cX2_weigh 198 = .ok (.invokestatic 18, 3) := by decide +kernel
theorem dX2_weigh_201 : decode cX2_weigh 201 = .ok (.goto 4, 3) := by decide +kernel
theorem dX2_weigh_204 : decode cX2_weigh 204 = .ok (.iload_n 3, 1) := by decide +kernel
theorem dX2_weigh_205 : decode cX2_weigh 205 = .ok (.istore_n 3, 1) := by decide +kernel
theorem dX2_weigh_206 : decode cX2_weigh 206 = .ok (.goto 52, 3) := by decide +kernel
theorem dX2_weigh_209 : decode cX2_weigh 209 = .ok (.iconst 0, 1) := by decide +kernel
theorem dX2_weigh_210 : decode cX2_weigh 210 = .ok (.aload_n 0, 1) := by decide +kernel
theorem dX2_weigh_211 : decode cX2_weigh 211 = .ok (.getfield 11, 3) := by decide +kernel
theorem dX2_weigh_214 : decode cX2_weigh 214 = .ok (.iload_n 2, 1) := by decide +kernel
theorem dX2_weigh_215 : decode cX2_weigh 215 = .ok (.iconst 1, 1) := by decide +kernel
theorem dX2_weigh_216 : decode cX2_weigh 216 = .ok (.isub, 1) := by decide +kernel
theorem dX2_weigh_217 : decode cX2_weigh 217 = .ok (.iaload, 1) := by decide +kernel
theorem dX2_weigh_218 : decode cX2_weigh 218 = .ok (.sipush 9999, 3) := by decide +kernel
theorem dX2_weigh_221 : decode cX2_weigh 221 = .ok (.invokestatic 24, 3) := by decide +kernel
theorem dX2_weigh_224 : decode cX2_weigh 224 = .ok (.invokestatic 18, 3) := by decide +kernel
theorem dX2_weigh_227 : decode cX2_weigh 227 = .ok (.ireturn, 1) := by decide +kernel
theorem dX2_weigh_228 : decode cX2_weigh 228 = .ok (.iinc 2 (-1), 3) := by decide +kernel
theorem dX2_weigh_231 : decode cX2_weigh 231 = .ok (.aload_n 0, 1) := by decide +kernel
theorem dX2_weigh_232 : decode cX2_weigh 232 = .ok (.getfield 11, 3) := by decide +kernel
theorem dX2_weigh_235 : decode cX2_weigh 235 = .ok (.iload_n 2, 1) := by decide +kernel
theorem dX2_weigh_236 : decode cX2_weigh 236 = .ok (.iconst 1, 1) := by decide +kernel
theorem dX2_weigh_237 : decode cX2_weigh 237 = .ok (.isub, 1) := by decide +kernel
theorem dX2_weigh_238 : decode cX2_weigh 238 = .ok (.iload 4, 2) := by decide +kernel
theorem dX2_weigh_240 : decode cX2_weigh 240 = .ok (.aload_n 0, 1) := by decide +kernel
theorem dX2_weigh_241 : decode cX2_weigh 241 = .ok (.getfield 11, 3) := by decide +kernel
theorem dX2_weigh_244 : decode cX2_weigh 244 = .ok (.iload_n 2, 1) := by decide +kernel
theorem dX2_weigh_245 : decode cX2_weigh 245 = .ok (.iconst 1, 1) := by decide +kernel
theorem dX2_weigh_246 : decode cX2_weigh 246 = .ok (.isub, 1) := by decide +kernel
theorem dX2_weigh_247 : decode cX2_weigh 247 = .ok (.iaload, 1) := by decide +kernel
theorem dX2_weigh_248 : decode cX2_weigh 248 = .ok (.aload_n 0, 1) := by decide +kernel
theorem dX2_weigh_249 : decode cX2_weigh 249 = .ok (.getfield 11, 3) := by decide +kernel
theorem dX2_weigh_252 : decode cX2_weigh 252 = .ok (.iload_n 2, 1) := by decide +kernel
theorem dX2_weigh_253 : decode cX2_weigh 253 = .ok (.iaload, 1) := by decide +kernel
theorem dX2_weigh_254 : decode cX2_weigh 254 = .ok (.invokestatic 27, 3) := by decide +kernel
theorem dX2_weigh_257 : decode cX2_weigh 257 = .ok (.iastore, 1) := by decide +kernel
theorem dX2_weigh_258 : decode cX2_weigh 258 = .ok (.iinc 3 1, 3) := by decide +kernel
theorem dX2_weigh_261 : decode cX2_weigh 261 = .ok (.goto (-257), 3) := by decide +kernel
theorem dX2_weigh_264 : decode cX2_weigh 264 = .ok (.iconst 0, 1) := by decide +kernel
theorem dX2_weigh_265 : decode cX2_weigh 265 = .ok (.ireturn, 1) := by decide +kernel
theorem dX2_joined_0 : decode cX2_joined 0 = .ok (.iload_n 0, 1) := by decide +kernel
theorem dX2_joined_1 : decode cX2_joined 1 = .ok (.tableswitch 136 6 14 #[51, 65, 79, 90, 101, 112, 116, 120, 124], 51) := by decide +kernel
theorem dX2_joined_52 : decode cX2_joined 52 = .ok (.iload_n 1, 1) := by decide +kernel
theorem dX2_joined_53 : decode cX2_joined 53 = .ok (.ifCond .ne 7, 3) := by decide +kernel
theorem dX2_joined_56 : decode cX2_joined 56 = .ok (.iload_n 2, 1) := by decide +kernel
theorem dX2_joined_57 : decode cX2_joined 57 = .ok (.ifCond .eq 7, 3) := by decide +kernel
theorem dX2_joined_60 : decode cX2_joined 60 = .ok (.iconst 1, 1) := by decide +kernel
theorem dX2_joined_61 : decode cX2_joined 61 = .ok (.goto 4, 3) := by decide +kernel
theorem dX2_joined_64 : decode cX2_joined 64 = .ok (.iconst 0, 1) := by decide +kernel
theorem dX2_joined_65 : decode cX2_joined 65 = .ok (.ireturn, 1) := by decide +kernel
theorem dX2_joined_66 : decode cX2_joined 66 = .ok (.iload_n 1, 1) := by decide +kernel
theorem dX2_joined_67 : decode cX2_joined 67 = .ok (.ifCond .eq 11, 3) := by decide +kernel
theorem dX2_joined_70 : decode cX2_joined 70 = .ok (.iload_n 2, 1) := by decide +kernel
theorem dX2_joined_71 : decode cX2_joined 71 = .ok (.ifCond .eq 7, 3) := by decide +kernel
theorem dX2_joined_74 : decode cX2_joined 74 = .ok (.iconst 1, 1) := by decide +kernel
theorem dX2_joined_75 : decode cX2_joined 75 = .ok (.goto 4, 3) := by decide +kernel
theorem dX2_joined_78 : decode cX2_joined 78 = .ok (.iconst 0, 1) := by decide +kernel
theorem dX2_joined_79 : decode cX2_joined 79 = .ok (.ireturn, 1) := by decide +kernel
theorem dX2_joined_80 : decode cX2_joined 80 = .ok (.iload_n 1, 1) := by decide +kernel
theorem dX2_joined_81 : decode cX2_joined 81 = .ok (.iload_n 2, 1) := by decide +kernel
theorem dX2_joined_82 : decode cX2_joined 82 = .ok (.if_icmp .ge 7, 3) := by decide +kernel
theorem dX2_joined_85 : decode cX2_joined 85 = .ok (.iconst 1, 1) := by decide +kernel
theorem dX2_joined_86 : decode cX2_joined 86 = .ok (.goto 4, 3) := by decide +kernel
theorem dX2_joined_89 : decode cX2_joined 89 = .ok (.iconst 0, 1) := by decide +kernel
theorem dX2_joined_90 : decode cX2_joined 90 = .ok (.ireturn, 1) := by decide +kernel
theorem dX2_joined_91 : decode cX2_joined 91 = .ok (.iload_n 1, 1) := by decide +kernel
theorem dX2_joined_92 : decode cX2_joined 92 = .ok (.iload_n 2, 1) := by decide +kernel
theorem dX2_joined_93 : decode cX2_joined 93 = .ok (.if_icmp .ne 7, 3) := by decide +kernel
theorem dX2_joined_96 : decode cX2_joined 96 = .ok (.iconst 1, 1) := by decide +kernel
theorem dX2_joined_97 : decode cX2_joined 97 = .ok (.goto 4, 3) := by decide +kernel
theorem dX2_joined_100 : decode cX2_joined 100 = .ok (.iconst 0, 1) := by decide +kernel
theorem dX2_joined_101 : decode cX2_joined 101 = .ok (.ireturn, 1) := by decide +kernel
theorem dX2_joined_102 : decode cX2_joined 102 = .ok (.iload_n 1, 1) := by decide +kernel
theorem dX2_joined_103 : decode cX2_joined 103 = .ok (.iload_n 2, 1) := by decide +kernel
theorem dX2_joined_104 : decode cX2_joined 104 = .ok (.if_icmp .le 7, 3) := by decide +kernel
theorem dX2_joined_107 : decode cX2_joined 107 = .ok (.iconst 1, 1) := by decide +kernel
theorem dX2_joined_108 : decode cX2_joined 108 = .ok (.goto 4, 3) := by decide +kernel
theorem dX2_joined_111 : decode cX2_joined 111 = .ok (.iconst 0, 1) := by decide +kernel
theorem dX2_joined_112 : decode cX2_joined 112 = .ok (.ireturn, 1) := by decide +kernel
theorem dX2_joined_113 : decode cX2_joined 113 = .ok (.iload_n 1, 1) := by decide +kernel
theorem dX2_joined_114 : decode cX2_joined 114 = .ok (.iload_n 2, 1) := by decide +kernel
theorem dX2_joined_115 : decode cX2_joined 115 = .ok (.iadd, 1) := by decide +kernel
theorem dX2_joined_116 : decode cX2_joined 116 = .ok (.ireturn, 1) := by decide +kernel
theorem dX2_joined_117 : decode cX2_joined 117 = .ok (.iload_n 1, 1) := by decide +kernel
theorem dX2_joined_118 : decode cX2_joined 118 = .ok (.iload_n 2, 1) := by decide +kernel
theorem dX2_joined_119 : decode cX2_joined 119 = .ok (.isub, 1) := by decide +kernel
theorem dX2_joined_120 : decode cX2_joined 120 = .ok (.ireturn, 1) := by decide +kernel
theorem dX2_joined_121 : decode cX2_joined 121 = .ok (.iload_n 1, 1) := by decide +kernel
theorem dX2_joined_122 : decode cX2_joined 122 = .ok (.iload_n 2, 1) := by decide +kernel
theorem dX2_joined_123 : decode cX2_joined 123 = .ok (.imul, 1) := by decide +kernel
theorem dX2_joined_124 : decode cX2_joined 124 = .ok (.ireturn, 1) := by decide +kernel
theorem dX2_joined_125 : decode cX2_joined 125 = .ok (.iload_n 2, 1) := by decide +kernel
theorem dX2_joined_126 : decode cX2_joined 126 = .ok (.ifCond .ne 7, 3) := by decide +kernel
theorem dX2_joined_129 : decode cX2_joined 129 = .ok (.iconst 0, 1) := by decide +kernel
theorem dX2_joined_130 : decode cX2_joined 130 = .ok (.goto 6, 3) := by decide +kernel
theorem dX2_joined_133 : decode cX2_joined 133 = .ok (.iload_n 1, 1) := by decide +kernel
theorem dX2_joined_134 : decode cX2_joined 134 = .ok (.iload_n 2, 1) := by decide +kernel
theorem dX2_joined_135 : decode cX2_joined 135 = .ok (.idiv, 1) := by decide +kernel
theorem dX2_joined_136 : decode cX2_joined 136 = .ok (.ireturn, 1) := by decide +kernel
theorem dX2_joined_137 : decode cX2_joined 137 = .ok (.iload_n 2, 1) := by decide +kernel
theorem dX2_joined_138 : decode cX2_joined 138 = .ok (.ifCond .ne 7, 3) := by decide +kernel
theorem dX2_joined_141 : decode cX2_joined 141 = .ok (.iconst 0, 1) := by decide +kernel
theorem dX2_joined_142 : decode cX2_joined 142 = .ok (.goto 6, 3) := by decide +kernel
theorem dX2_joined_145 : decode cX2_joined 145 = .ok (.iload_n 1, 1) := by decide +kernel
theorem dX2_joined_146 : decode cX2_joined 146 = .ok (.iload_n 2, 1) := by decide +kernel
theorem dX2_joined_147 : decode cX2_joined 147 = .ok (.irem, 1) := by decide +kernel
theorem dX2_joined_148 : decode cX2_joined 148 = .ok (.ireturn, 1) := by decide +kernel
