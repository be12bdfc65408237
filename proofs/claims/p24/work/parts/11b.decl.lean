theorem dL_answer_160 : decode cL_answer 160 = .ok (.aload_n 2, 1) := by decide +kernel
theorem dL_answer_161 : decode cL_answer 161 = .ok (.aload 4, 2) := by decide +kernel
theorem dL_answer_163 : decode cL_answer 163 = .ok (.iload 5, 2) := by decide +kernel
theorem dL_answer_165 : decode cL_answer 165 = .ok (.lload 8, 2) := by decide +kernel
theorem dL_answer_167 : decode cL_answer 167 = .ok (.lconst 0, 1) := by decide +kernel
theorem dL_answer_168 : decode cL_answer 168 = .ok (.lcmp, 1) := by decide +kernel
theorem dL_answer_169 : decode cL_answer 169 = .ok (.ifCond .le 7, 3) := by decide +kernel
theorem dL_answer_172 : decode cL_answer 172 = .ok (.iconst 3, 1) := by decide +kernel
theorem dL_answer_173 : decode cL_answer 173 = .ok (.goto 4, 3) := by decide +kernel
theorem dL_answer_176 : decode cL_answer 176 = .ok (.iconst 2, 1) := by decide +kernel
theorem dL_answer_177 : decode cL_answer 177 = .ok (.iload 7, 2) := by decide +kernel
theorem dL_answer_179 : decode cL_answer 179 = .ok (.lload 8, 2) := by decide +kernel
theorem dL_answer_181 : decode cL_answer 181 = .ok (.lconst 0, 1) := by decide +kernel
theorem dL_answer_182 : decode cL_answer 182 = .ok (.lcmp, 1) := by decide +kernel
theorem dL_answer_183 : decode cL_answer 183 = .ok (.ifCond .le 8, 3) := by decide +kernel
theorem dL_answer_186 : decode cL_answer 186 = .ok (.lload 8, 2) := by decide +kernel
theorem dL_answer_188 : decode cL_answer 188 = .ok (.goto 5, 3) := by decide +kernel
theorem dL_answer_191 : decode cL_answer 191 = .ok (.lload 10, 2) := by decide +kernel
theorem dL_answer_193 : decode cL_answer 193 = .ok (.invokestatic 73, 3) := by decide +kernel
theorem dL_answer_196 : decode cL_answer 196 = .ok (.aload 4, 2) := by decide +kernel
theorem dL_answer_198 : decode cL_answer 198 = .ok (.iload 6, 2) := by decide +kernel
theorem dL_answer_200 : decode cL_answer 200 = .ok (.iaload, 1) := by decide +kernel
theorem dL_answer_201 : decode cL_answer 201 = .ok (.iconst 3, 1) := by decide +kernel
theorem dL_answer_202 : decode cL_answer 202 = .ok (.if_icmp .ne 9, 3) := by decide +kernel
theorem dL_answer_205 : decode cL_answer 205 = .ok (.aload 4, 2) := by decide +kernel
theorem dL_answer_207 : decode cL_answer 207 = .ok (.iload 6, 2) := by decide +kernel
theorem dL_answer_209 : decode cL_answer 209 = .ok (.iconst 1, 1) := by decide +kernel
theorem dL_answer_210 : decode cL_answer 210 = .ok (.iastore, 1) := by decide +kernel
theorem dL_answer_211 : decode cL_answer 211 = .ok (.return_, 1) := by decide +kernel
theorem dL_answer_212 : decode cL_answer 212 = .ok (.aload_n 2, 1) := by decide +kernel
theorem dL_answer_213 : decode cL_answer 213 = .ok (.aload 4, 2) := by decide +kernel
theorem dL_answer_215 : decode cL_answer 215 = .ok (.iload 5, 2) := by decide +kernel
theorem dL_answer_217 : decode cL_answer 217 = .ok (.iconst 1, 1) := by decide +kernel
theorem dL_answer_218 : decode cL_answer 218 = .ok (.iload 7, 2) := by decide +kernel
theorem dL_answer_220 : decode cL_answer 220 = .ok (.lconst 0, 1) := by decide +kernel
theorem dL_answer_221 : decode cL_answer 221 = .ok (.invokestatic 73, 3) := by decide +kernel
theorem dL_answer_224 : decode cL_answer 224 = .ok (.aload 4, 2) := by decide +kernel
theorem dL_answer_226 : decode cL_answer 226 = .ok (.iload 6, 2) := by decide +kernel
theorem dL_answer_228 : decode cL_answer 228 = .ok (.iaload, 1) := by decide +kernel
theorem dL_answer_229 : decode cL_answer 229 = .ok (.iconst 3, 1) := by decide +kernel
theorem dL_answer_230 : decode cL_answer 230 = .ok (.if_icmp .ge 12, 3) := by decide +kernel
theorem dL_answer_233 : decode cL_answer 233 = .ok (.aload 4, 2) := by decide +kernel
theorem dL_answer_235 : decode cL_answer 235 = .ok (.iload 6, 2) := by decide +kernel
theorem dL_answer_237 : decode cL_answer 237 = .ok (.dup2, 1) := by decide +kernel
theorem dL_answer_238 : decode cL_answer 238 = .ok (.iaload, 1) := by decide +kernel
theorem dL_answer_239 : decode cL_answer 239 = .ok (.iconst 2, 1) := by decide +kernel
theorem dL_answer_240 : decode cL_answer 240 = .ok (.iadd, 1) := by decide +kernel
theorem dL_answer_241 : decode cL_answer 241 = .ok (.iastore, 1) := by decide +kernel
theorem dL_answer_242 : decode cL_answer 242 = .ok (.return_, 1) := by decide +kernel
theorem dL_take_0 : decode cL_take 0 = .ok (.bipush 8, 2) := by decide +kernel
theorem dL_take_2 : decode cL_take 2 = .ok (.iload 6, 2) := by decide +kernel
theorem dL_take_4 : decode cL_take 4 = .ok (.imul, 1) := by decide +kernel
theorem dL_take_5 : decode cL_take 5 = .ok (.istore 7, 2) := by decide +kernel
theorem dL_take_7 : decode cL_take 7 = .ok (.lload_n 0, 1) := by decide +kernel
theorem dL_take_8 : decode cL_take 8 = .ok (.ldc2_w 81, 3) := by decide +kernel
theorem dL_take_11 : decode cL_take 11 = .ok (.land, 1) := by decide +kernel
theorem dL_take_12 : decode cL_take 12 = .ok (.l2i, 1) := by decide +kernel
theorem dL_take_13 : decode cL_take 13 = .ok (.istore 8, 2) := by decide +kernel
theorem dL_take_15 : decode cL_take 15 = .ok (.iload 8, 2) := by decide +kernel
theorem dL_take_17 : decode cL_take 17 = .ok (.iconst 4, 1) := by decide +kernel
theorem dL_take_18 : decode cL_take 18 = .ok (.if_icmp .ne 12, 3) := by decide +kernel
theorem dL_take_21 : decode cL_take 21 = .ok (.aload 5, 2) := by decide +kernel
theorem dL_take_23 : decode cL_take 23 = .ok (.iload 7, 2) := by decide +kernel
theorem dL_take_25 : decode cL_take 25 = .ok (.iconst 0, 1) := by decide +kernel
theorem dL_take_26 : decode cL_take 26 = .ok (.iastore, 1) := by decide +kernel
theorem dL_take_27 : decode cL_take 27 = .ok (.goto 241, 3) := by decide +kernel
theorem dL_take_30 : decode cL_take 30 = .ok (.iload 8, 2) := by decide +kernel
theorem dL_take_32 : decode cL_take 32 = .ok (.ifCond .ne 115, 3) := by decide +kernel
theorem dL_take_35 : decode cL_take 35 = .ok (.aload 5, 2) := by decide +kernel
theorem dL_take_37 : decode cL_take 37 = .ok (.iload 7, 2) := by decide +kernel
theorem dL_take_39 : decode cL_take 39 = .ok (.iconst 4, 1) := by decide +kernel
theorem dL_take_40 : decode cL_take 40 = .ok (.iadd, 1) := by decide +kernel
theorem dL_take_41 : decode cL_take 41 = .ok (.lload_n 0, 1) := by decide +kernel
theorem dL_take_42 : decode cL_take 42 = .ok (.bipush 32, 2) := by decide +kernel
theorem dL_take_44 : decode cL_take 44 = .ok (.lshr, 1) := by decide +kernel
theorem dL_take_45 : decode cL_take 45 = .ok (.ldc2_w 79, 3) := by decide +kernel
theorem dL_take_48 : decode cL_take 48 = .ok (.land, 1) := by decide +kernel
theorem dL_take_49 : decode cL_take 49 = .ok (.l2i, 1) := by decide +kernel
theorem dL_take_50 : decode cL_take 50 = .ok (.invokestatic 83, 3) := by decide +kernel
theorem dL_take_53 : decode cL_take 53 = .ok (.aload 5, 2) := by decide +kernel
theorem dL_take_55 : decode cL_take 55 = .ok (.iload 7, 2) := by decide +kernel
theorem dL_take_57 : decode cL_take 57 = .ok (.bipush 6, 2) := by decide +kernel
theorem dL_take_59 : decode cL_take 59 = .ok (.iadd, 1) := by decide +kernel
theorem dL_take_60 : decode cL_take 60 = .ok (.iaload, 1) := by decide +kernel
theorem dL_take_61 : decode cL_take 61 = .ok (.invokestatic 83, 3) := by decide +kernel
theorem dL_take_64 : decode cL_take 64 = .ok (.if_icmp .ne 7, 3) := by decide +kernel
theorem dL_take_67 : decode cL_take 67 = .ok (.iconst 1, 1) := by decide +kernel
theorem dL_take_68 : decode cL_take 68 = .ok (.goto 4, 3) := by decide +kernel
theorem dL_take_71 : decode cL_take 71 = .ok (.iconst 0, 1) := by decide +kernel
theorem dL_take_72 : decode cL_take 72 = .ok (.iastore, 1) := by decide +kernel
theorem dL_take_73 : decode cL_take 73 = .ok (.aload 5, 2) := by decide +kernel
theorem dL_take_75 : decode cL_take 75 = .ok (.iload 7, 2) := by decide +kernel
theorem dL_take_77 : decode cL_take 77 = .ok (.iconst 4, 1) := by decide +kernel
theorem dL_take_78 : decode cL_take 78 = .ok (.iadd, 1) := by decide +kernel
theorem dL_take_79 : decode cL_take 79 = .ok (.iaload, 1) := by decide +kernel
theorem dL_take_80 : decode cL_take 80 = .ok (.iconst 1, 1) := by decide +kernel
theorem dL_take_81 : decode cL_take 81 = .ok (.if_icmp .ne 4, 3) := by decide +kernel
theorem dL_take_84 : decode cL_take 84 = .ok (.return_, 1) := by decide +kernel
theorem dL_take_85 : decode cL_take 85 = .ok (.aload 5, 2) := by decide +kernel
theorem dL_take_87 : decode cL_take 87 = .ok (.iload 7, 2) := by decide +kernel
theorem dL_take_89 : decode cL_take 89 = .ok (.iaload, 1) := by decide +kernel
theorem dL_take_90 : decode cL_take 90 = .ok (.ifCond .ne 15, 3) := by decide +kernel
theorem dL_take_93 : decode cL_take 93 = .ok (.aload_n 2, 1) := by decide +kernel
theorem dL_take_94 : decode cL_take 94 = .ok (.aload 5, 2) := by decide +kernel
theorem dL_take_96 : decode cL_take 96 = .ok (.iload 6, 2) := by decide +kernel
theorem dL_take_98 : decode cL_take 98 = .ok (.iconst 4, 1) := by decide +kernel
theorem dL_take_99 : decode cL_take 99 = .ok (.iconst 0, 1) := by decide +kernel
theorem dL_take_100 : decode cL_take 100 = .ok (.lconst 0, 1) := by decide +kernel
theorem dL_take_101 : decode cL_take 101 = .ok (.invokestatic 73, 3) := by decide +kernel
theorem dL_take_104 : decode cL_take 104 = .ok (.return_, 1) := by decide +kernel
theorem dL_take_105 : decode cL_take 105 = .ok (.aload 5, 2) := by decide +kernel
theorem dL_take_107 : decode cL_take 107 = .ok (.iload 7, 2) := by decide +kernel
theorem dL_take_109 : decode cL_take 109 = .ok (.iaload, 1) := by decide +kernel
theorem dL_take_110 : decode cL_take 110 = .ok (.iconst 4, 1) := by decide +kernel
theorem dL_take_111 : decode cL_take 111 = .ok (.if_icmp .ne 23, 3) := by decide +kernel
theorem dL_take_114 : decode cL_take 114 = .ok (.aload 5, 2) := by decide +kernel
theorem dL_take_116 : decode cL_take 116 = .ok (.iload 7, 2) := by decide +kernel
theorem dL_take_118 : decode cL_take 118 = .ok (.iconst 1, 1) := by decide +kernel
theorem dL_take_119 : decode cL_take 119 = .ok (.iastore, 1) := by decide +kernel
theorem dL_take_120 : decode cL_take 120 = .ok (.aload_n 2, 1) := by decide +kernel
theorem dL_take_121 : decode cL_take 121 = .ok (.aload 4, 2) := by decide +kernel
theorem dL_take_123 : decode cL_take 123 = .ok (.aload 5, 2) := by decide +kernel
theorem dL_take_125 : decode cL_take 125 = .ok (.iload 6, 2) := by decide +kernel
theorem dL_take_127 : decode cL_take 127 = .ok (.invokestatic 86, 3) := by decide +kernel
theorem dL_take_130 : decode cL_take 130 = .ok (.ifCond .ne 4, 3) := by decide +kernel
theorem dL_take_133 : decode cL_take 133 = .ok (.return_, 1) := by decide +kernel
theorem dL_take_134 : decode cL_take 134 = .ok (.lload_n 0, 1) := by decide +kernel
theorem dL_take_135 : decode cL_take 135 = .ok (.aload_n 2, 1) := by decide +kernel
theorem dL_take_136 : decode cL_take 136 = .ok (.aload_n 3, 1) := by decide +kernel
theorem dL_take_137 : decode cL_take 137 = .ok (.aload 5, 2) := by decide +kernel
theorem dL_take_139 : decode cL_take 139 = .ok (.iload 6, 2) := by decide +kernel
theorem dL_take_141 : decode cL_take 141 = .ok (.invokestatic 90, 3) := by decide +kernel
theorem dL_take_144 : decode cL_take 144 = .ok (.goto 124, 3) := by decide +kernel
theorem dL_take_147 : decode cL_take 147 = .ok (.aload 5, 2) := by decide +kernel
theorem dL_take_149 : decode cL_take 149 = .ok (.iload 7, 2) := by decide +kernel
theorem dL_take_151 : decode cL_take 151 = .ok (.iaload, 1) := by decide +kernel
theorem dL_take_152 : decode cL_take 152 = .ok (.iconst 1, 1) := by decide +kernel
theorem dL_take_153 : decode cL_take 153 = .ok (.if_icmp .eq 12, 3) := by decide +kernel
theorem dL_take_156 : decode cL_take 156 = .ok (.aload 5, 2) := by decide +kernel
theorem dL_take_158 : decode cL_take 158 = .ok (.iload 7, 2) := by decide +kernel
theorem dL_take_160 : decode cL_take 160 = .ok (.iaload, 1) := by decide +kernel
theorem dL_take_161 : decode cL_take 161 = .ok (.iconst 3, 1) := by decide +kernel
theorem dL_take_162 : decode cL_take 162 = .ok (.if_icmp .ne 106, 3) := by decide +kernel
theorem dL_take_165 : decode cL_take 165 = .ok (.lload_n 0, 1) := by decide +kernel
theorem dL_take_166 : decode cL_take 166 = .ok (.bipush 36, 2) := by decide +kernel
theorem dL_take_168 : decode cL_take 168 = .ok (.lshr, 1) := by decide +kernel
theorem dL_take_169 : decode cL_take 169 = .ok (.l2i, 1) := by decide +kernel
theorem dL_take_170 : decode cL_take 170 = .ok (.aload 5, 2) := by decide +kernel
theorem dL_take_172 : decode cL_take 172 = .ok (.iload 7, 2) := by decide +kernel
theorem dL_take_174 : decode cL_take 174 = .ok (.iconst 1, 1) := by decide +kernel
theorem dL_take_175 : decode cL_take 175 = .ok (.iadd, 1) := by decide +kernel
theorem dL_take_176 : decode cL_take 176 = .ok (.iaload, 1) := by decide +kernel
theorem dL_take_177 : decode cL_take 177 = .ok (.if_icmp .ne 91, 3) := by decide +kernel
theorem dL_take_180 : decode cL_take 180 = .ok (.iload 8, 2) := by decide +kernel
theorem dL_take_182 : decode cL_take 182 = .ok (.iconst 1, 1) := by decide +kernel
theorem dL_take_183 : decode cL_take 183 = .ok (.if_icmp .ne 13, 3) := by decide +kernel
theorem dL_take_186 : decode cL_take 186 = .ok (.aload 5, 2) := by decide +kernel
theorem dL_take_188 : decode cL_take 188 = .ok (.iload 7, 2) := by decide +kernel
theorem dL_take_190 : decode cL_take 190 = .ok (.dup2, 1) := by decide +kernel
theorem dL_take_191 : decode cL_take 191 = .ok (.iaload, 1) := by decide +kernel
theorem dL_take_192 : decode cL_take 192 = .ok (.iconst 1, 1) := by decide +kernel
theorem dL_take_193 : decode cL_take 193 = .ok (.iadd, 1) := by decide +kernel
theorem dL_take_194 : decode cL_take 194 = .ok (.iastore, 1) := by decide +kernel
theorem dL_take_195 : decode cL_take 195 = .ok (.return_, 1) := by decide +kernel
theorem dL_take_196 : decode cL_take 196 = .ok (.iconst 0, 1) := by decide +kernel
theorem dL_take_197 : decode cL_take 197 = .ok (.istore 9, 2) := by decide +kernel
theorem dL_take_199 : decode cL_take 199 = .ok (.iload 9, 2) := by decide +kernel
theorem dL_take_201 : decode cL_take 201 = .ok (.bipush 6, 2) := by decide +kernel
theorem dL_take_203 : decode cL_take 203 = .ok (.if_icmp .ge 54, 3) := by decide +kernel
theorem dL_take_206 : decode cL_take 206 = .ok (.lload_n 0, 1) := by decide +kernel
theorem dL_take_207 : decode cL_take 207 = .ok (.iconst 3, 1) := by decide +kernel
theorem dL_take_208 : decode cL_take 208 = .ok (.iconst 4, 1) := by decide +kernel
theorem dL_take_209 : decode cL_take 209 = .ok (.iload 9, 2) := by decide +kernel
theorem dL_take_211 : decode cL_take 211 = .ok (.imul, 1) := by decide +kernel
theorem dL_take_212 : decode cL_take 212 = .ok (.iadd, 1) := by decide +kernel
theorem dL_take_213 : decode cL_take 213 = .ok (.lshr, 1) := by decide +kernel
theorem dL_take_214 : decode cL_take 214 = .ok (.ldc2_w 79, 3) := by decide +kernel
theorem dL_take_217 : decode cL_take 217 = .ok (.land, 1) := by decide +kernel
theorem dL_take_218 : decode cL_take 218 = .ok (.l2i, 1) := by decide +kernel
theorem dL_take_219 : decode cL_take 219 = .ok (.istore 10, 2) := by decide +kernel
theorem dL_take_221 : decode cL_take 221 = .ok (.iload 10, 2) := by decide +kernel
theorem dL_take_223 : decode cL_take 223 = .ok (.ifCond .le 28, 3) := by decide +kernel
theorem dL_take_226 : decode cL_take 226 = .ok (.aload 4, 2) := by decide +kernel
theorem dL_take_228 : decode cL_take 228 = .ok (.bipush 6, 2) := by decide +kernel
theorem dL_take_230 : decode cL_take 230 = .ok (.iload 6, 2) := by decide +kernel
theorem dL_take_232 : decode cL_take 232 = .ok (.imul, 1) := by decide +kernel
theorem dL_take_233 : decode cL_take 233 = .ok (.iload 9, 2) := by decide +kernel
theorem dL_take_235 : decode cL_take 235 = .ok (.iadd, 1) := by decide +kernel
theorem dL_take_236 : decode cL_take 236 = .ok (.iload 8, 2) := by decide +kernel
theorem dL_take_238 : decode cL_take 238 = .ok (.iconst 2, 1) := by decide +kernel
theorem dL_take_239 : decode cL_take 239 = .ok (.if_icmp .ne 10, 3) := by decide +kernel
theorem dL_take_242 : decode cL_take 242 = .ok (.iload 10, 2) := by decide +kernel
theorem dL_take_244 : decode cL_take 244 = .ok (.iconst 1, 1) := by decide +kernel
theorem dL_take_245 : decode cL_take 245 = .ok (.isub, 1) := by decide +kernel
theorem dL_take_246 : decode cL_take 246 = .ok (.goto 4, 3) := by decide +kernel
theorem dL_take_249 : decode cL_take 249 = .ok (.iconst (-1), 1) := by decide +kernel
theorem dL_take_250 : decode cL_take 250 = .ok (.iastore, 1) := by decide +kernel
theorem dL_take_251 : decode cL_take 251 = .ok (.iinc 9 1, 3) := by decide +kernel
theorem dL_take_254 : decode cL_take 254 = .ok (.goto (-55), 3) := by decide +kernel
theorem dL_take_257 : decode cL_take 257 = .ok (.aload_n 2, 1) := by decide +kernel
theorem dL_take_258 : decode cL_take 258 = .ok (.aload 4, 2) := by decide +kernel
theorem dL_take_260 : decode cL_take 260 = .ok (.aload 5, 2) := by decide +kernel
theorem dL_take_262 : decode cL_take 262 = .ok (.iload 6, 2) := by decide +kernel
theorem dL_take_264 : decode cL_take 264 = .ok (.invokestatic 86, 3) := by decide +kernel
theorem dL_take_267 : decode cL_take 267 = .ok (.pop, 1) := by decide +kernel
theorem dL_take_268 : decode cL_take 268 = .ok (.return_, 1) := by decide +kernel
theorem dL_goBy_0 : decode cL_goBy 0 = .ok (.iconst 0, 1) := by decide +kernel
theorem dL_goBy_1 : decode cL_goBy 1 = .ok (.istore 5, 2) := by decide +kernel
theorem dL_goBy_3 : decode cL_goBy 3 = .ok (.iconst 0, 1) := by decide +kernel
theorem dL_goBy_4 : decode cL_goBy 4 = .ok (.istore 6, 2) := by decide +kernel
theorem dL_goBy_6 : decode cL_goBy 6 = .ok (.iload 6, 2) := by decide +kernel
theorem dL_goBy_8 : decode cL_goBy 8 = .ok (.iconst 2, 1) := by decide +kernel
theorem dL_goBy_9 : decode cL_goBy 9 = .ok (.iload_n 0, 1) := by decide +kernel
theorem dL_goBy_10 : decode cL_goBy 10 = .ok (.imul, 1) := by decide +kernel
theorem dL_goBy_11 : decode cL_goBy 11 = .ok (.if_icmp .ge 104, 3) := by decide +kernel
theorem dL_goBy_14 : decode cL_goBy 14 = .ok (.bipush 8, 2) := by decide +kernel
theorem dL_goBy_16 : decode cL_goBy 16 = .ok (.iload 6, 2) := by decide +kernel
theorem dL_goBy_18 : decode cL_goBy 18 = .ok (.iconst 2, 1) := by decide +kernel
theorem dL_goBy_19 : decode cL_goBy 19 = .ok (.irem, 1) := by decide +kernel
theorem dL_goBy_20 : decode cL_goBy 20 = .ok (.imul, 1) := by decide +kernel
theorem dL_goBy_21 : decode cL_goBy 21 = .ok (.istore 7, 2) := by decide +kernel
theorem dL_goBy_23 : decode cL_goBy 23 = .ok (.aload 4, 2) := by decide +kernel
theorem dL_goBy_25 : decode cL_goBy 25 = .ok (.iload 7, 2) := by decide +kernel
theorem dL_goBy_27 : decode cL_goBy 27 = .ok (.iaload, 1) := by decide +kernel
theorem dL_goBy_28 : decode cL_goBy 28 = .ok (.ifCond .eq 81, 3) := by decide +kernel
theorem dL_goBy_31 : decode cL_goBy 31 = .ok (.aload 4, 2) := by decide +kernel
theorem dL_goBy_33 : decode cL_goBy 33 = .ok (.iload 7, 2) := by decide +kernel
theorem dL_goBy_35 : decode cL_goBy 35 = .ok (.iaload, 1) := by decide +kernel
theorem dL_goBy_36 : decode cL_goBy 36 = .ok (.iconst 4, 1) := by decide +kernel
theorem dL_goBy_37 : decode cL_goBy 37 = .ok (.if_icmp .ne 6, 3) := by decide +kernel
theorem dL_goBy_40 : decode cL_goBy 40 = .ok (.goto 69, 3) := by decide +kernel
theorem dL_goBy_43 : decode cL_goBy 43 = .ok (.aload 4, 2) := by decide +kernel
theorem dL_goBy_45 : decode cL_goBy 45 = .ok (.iload 7, 2) := by decide +kernel
theorem dL_goBy_47 : decode cL_goBy 47 = .ok (.iconst 3, 1) := by decide +kernel
theorem dL_goBy_48 : decode cL_goBy 48 = .ok (.iadd, 1) := by decide +kernel
theorem dL_goBy_49 : decode cL_goBy 49 = .ok (.dup2, 1) := by decide +kernel
theorem dL_goBy_50 : decode cL_goBy 50 = .ok (.iaload, 1) := by decide +kernel
theorem dL_goBy_51 : decode cL_goBy 51 = .ok (.iconst 1, 1) := by decide +kernel
theorem dL_goBy_52 : decode cL_goBy 52 = .ok (.isub, 1) := by decide +kernel
theorem dL_goBy_53 : decode cL_goBy 53 = .ok (.iastore, 1) := by decide +kernel
theorem dL_goBy_54 : decode cL_goBy 54 = .ok (.aload 4, 2) := by decide +kernel
theorem dL_goBy_56 : decode cL_goBy 56 = .ok (.iload 7, 2) := by decide +kernel
theorem dL_goBy_58 : decode cL_goBy 58 = .ok (.iconst 3, 1) := by decide +kernel
theorem dL_goBy_59 : decode cL_goBy 59 = .ok (.iadd, 1) := by decide +kernel
theorem dL_goBy_60 : decode cL_goBy 60 = .ok (.iaload, 1) := by decide +kernel
theorem dL_goBy_61 : decode cL_goBy 61 = .ok (.ifCond .le 6, 3) := by decide +kernel
theorem dL_goBy_64 : decode cL_goBy 64 = .ok (.goto 45, 3) := by decide +kernel
theorem dL_goBy_67 : decode cL_goBy 67 = .ok (.aload 4, 2) := by decide +kernel
theorem dL_goBy_69 : decode cL_goBy 69 = .ok (.iload 7, 2) := by decide +kernel
theorem dL_goBy_71 : decode cL_goBy 71 = .ok (.iaload, 1) := by decide +kernel
theorem dL_goBy_72 : decode cL_goBy 72 = .ok (.iconst 2, 1) := by decide +kernel
theorem dL_goBy_73 : decode cL_goBy 73 = .ok (.if_icmp .ne 9, 3) := by decide +kernel
theorem dL_goBy_76 : decode cL_goBy 76 = .ok (.aload 4, 2) := by decide +kernel
theorem dL_goBy_78 : decode cL_goBy 78 = .ok (.iload 7, 2) := by decide +kernel
theorem dL_goBy_80 : decode cL_goBy 80 = .ok (.iconst 1, 1) := by decide +kernel
theorem dL_goBy_81 : decode cL_goBy 81 = .ok (.iastore, 1) := by decide +kernel
theorem dL_goBy_82 : decode cL_goBy 82 = .ok (.iload 5, 2) := by decide +kernel
theorem dL_goBy_84 : decode cL_goBy 84 = .ok (.iload 6, 2) := by decide +kernel
theorem dL_goBy_86 : decode cL_goBy 86 = .ok (.iconst 2, 1) := by decide +kernel
theorem dL_goBy_87 : decode cL_goBy 87 = .ok (.irem, 1) := by decide +kernel
theorem dL_goBy_88 : decode cL_goBy 88 = .ok (.ifCond .ne 7, 3) := by decide +kernel
theorem dL_goBy_91 : decode cL_goBy 91 = .ok (.aload_n 1, 1) := by decide +kernel
theorem dL_goBy_92 : decode cL_goBy 92 = .ok (.goto 4, 3) := by decide +kernel
theorem dL_goBy_95 : decode cL_goBy 95 = .ok (.aload_n 2, 1) := by decide +kernel
theorem dL_goBy_96 : decode cL_goBy 96 = .ok (.aload_n 3, 1) := by decide +kernel
theorem dL_goBy_97 : decode cL_goBy 97 = .ok (.aload 4, 2) := by decide +kernel
theorem dL_goBy_99 : decode cL_goBy 99 = .ok (.iload 6, 2) := by decide +kernel
theorem dL_goBy_101 : decode cL_goBy 101 = .ok (.iconst 2, 1) := by decide +kernel
theorem dL_goBy_102 : decode cL_goBy 102 = .ok (.irem, 1) := by decide +kernel
theorem dL_goBy_103 : decode cL_goBy 103 = .ok (.invokestatic 86, 3) := by decide +kernel
theorem dL_goBy_106 : decode cL_goBy 106 = .ok (.iadd, 1) := by decide +kernel
theorem dL_goBy_107 : decode cL_goBy 107 = .ok (.istore 5, 2) := by decide +kernel
theorem dL_goBy_109 : decode cL_goBy 109 = .ok (.iinc 6 1, 3) := by decide +kernel
theorem dL_goBy_112 : decode cL_goBy 112 = .ok (.goto (-106), 3) := by decide +kernel
theorem dL_goBy_115 : decode cL_goBy 115 = .ok (.iload 5, 2) := by decide +kernel
theorem dL_goBy_117 : decode cL_goBy 117 = .ok (.ireturn, 1) := by decide +kernel
theorem dL_links_0 : decode cL_links 0 = .ok (.iload_n 2, 1) := by decide +kernel
theorem dL_links_1 : decode cL_links 1 = .ok (.iconst 1, 1) := by decide +kernel
theorem dL_links_2 : decode cL_links 2 = .ok (.iand, 1) := by decide +kernel
theorem dL_links_3 : decode cL_links 3 = .ok (.istore 10, 2) := by decide +kernel
theorem dL_links_5 : decode cL_links 5 = .ok (.bipush 8, 2) := by decide +kernel
theorem dL_links_7 : decode cL_links 7 = .ok (.iload 10, 2) := by decide +kernel
theorem dL_links_9 : decode cL_links 9 = .ok (.imul, 1) := by decide +kernel
theorem dL_links_10 : decode cL_links 10 = .ok (.istore 11, 2) := by decide +kernel
theorem dL_links_12 : decode cL_links 12 = .ok (.iload 10, 2) := by decide +kernel
theorem dL_links_14 : decode cL_links 14 = .ok (.ifCond .ne 8, 3) := by decide +kernel
theorem dL_links_17 : decode cL_links 17 = .ok (.aload 4, 2) := by decide +kernel
theorem dL_links_19 : decode cL_links 19 = .ok (.goto 5, 3) := by decide +kernel
theorem dL_links_22 : decode cL_links 22 = .ok (.aload 5, 2) := by decide +kernel
theorem dL_links_24 : decode cL_links 24 = .ok (.astore 12, 2) := by decide +kernel
theorem dL_links_26 : decode cL_links 26 = .ok (.iload_n 3, 1) := by decide +kernel
theorem dL_links_27 : decode cL_links 27 = .ok (.bipush 6, 2) := by decide +kernel
theorem dL_links_29 : decode cL_links 29 = .ok (.invokestatic 94, 3) := by decide +kernel
theorem dL_links_32 : decode cL_links 32 = .ok (.istore 13, 2) := by decide +kernel
theorem dL_links_34 : decode cL_links 34 = .ok (.iload_n 1, 1) := by decide +kernel
theorem dL_links_35 : decode cL_links 35 = .ok (.iconst 3, 1) := by decide +kernel
theorem dL_links_36 : decode cL_links 36 = .ok (.if_icmp .ge 121, 3) := by decide +kernel
theorem dL_links_39 : decode cL_links 39 = .ok (.iload_n 3, 1) := by decide +kernel
theorem dL_links_40 : decode cL_links 40 = .ok (.iconst 3, 1) := by decide +kernel
theorem dL_links_41 : decode cL_links 41 = .ok (.ishr, 1) := by decide +kernel
theorem dL_links_42 : decode cL_links 42 = .ok (.bipush 11, 2) := by decide +kernel
theorem dL_links_44 : decode cL_links 44 = .ok (.invokestatic 94, 3) := by decide +kernel
theorem dL_links_47 : decode cL_links 47 = .ok (.iconst 1, 1) := by decide +kernel
theorem dL_links_48 : decode cL_links 48 = .ok (.isub, 1) := by decide +kernel
theorem dL_links_49 : decode cL_links 49 = .ok (.istore 14, 2) := by decide +kernel
theorem dL_links_51 : decode cL_links 51 = .ok (.aload 6, 2) := by decide +kernel
theorem dL_links_53 : decode cL_links 53 = .ok (.bipush 6, 2) := by decide +kernel
theorem dL_links_55 : decode cL_links 55 = .ok (.iload 10, 2) := by decide +kernel
theorem dL_links_57 : decode cL_links 57 = .ok (.imul, 1) := by decide +kernel
theorem dL_links_58 : decode cL_links 58 = .ok (.iload 13, 2) := by decide +kernel
theorem dL_links_60 : decode cL_links 60 = .ok (.iadd, 1) := by decide +kernel
theorem dL_links_61 : decode cL_links 61 = .ok (.iaload, 1) := by decide +kernel
theorem dL_links_62 : decode cL_links 62 = .ok (.istore 15, 2) := by decide +kernel
theorem dL_links_64 : decode cL_links 64 = .ok (.aload 6, 2) := by decide +kernel
theorem dL_links_66 : decode cL_links 66 = .ok (.bipush 6, 2) := by decide +kernel
theorem dL_links_68 : decode cL_links 68 = .ok (.iload 10, 2) := by decide +kernel
theorem dL_links_70 : decode cL_links 70 = .ok (.imul, 1) := by decide +kernel
theorem dL_links_71 : decode cL_links 71 = .ok (.iload 13, 2) := by decide +kernel
theorem dL_links_73 : decode cL_links 73 = .ok (.iadd, 1) := by decide +kernel
theorem dL_links_74 : decode cL_links 74 = .ok (.iload 14, 2) := by decide +kernel
theorem dL_links_76 : decode cL_links 76 = .ok (.iastore, 1) := by decide +kernel
theorem dL_links_77 : decode cL_links 77 = .ok (.aload_n 0, 1) := by decide +kernel
theorem dL_links_78 : decode cL_links 78 = .ok (.iconst 2, 1) := by decide +kernel
theorem dL_links_79 : decode cL_links 79 = .ok (.iload 13, 2) := by decide +kernel
theorem dL_links_81 : decode cL_links 81 = .ok (.bipush 10, 2) := by decide +kernel
theorem dL_links_83 : decode cL_links 83 = .ok (.invokestatic 97, 3) := by decide +kernel
theorem dL_links_86 : decode cL_links 86 = .ok (.bipush (-71), 2) := by decide +kernel
theorem dL_links_88 : decode cL_links 88 = .ok (.if_icmp .ne 67, 3) := by decide +kernel
theorem dL_links_91 : decode cL_links 91 = .ok (.aload_n 0, 1) := by decide +kernel
theorem dL_links_92 : decode cL_links 92 = .ok (.iload 10, 2) := by decide +kernel
theorem dL_links_94 : decode cL_links 94 = .ok (.bipush 6, 2) := by decide +kernel
theorem dL_links_96 : decode cL_links 96 = .ok (.iload 14, 2) := by decide +kernel
theorem dL_links_98 : decode cL_links 98 = .ok (.invokestatic 97, 3) := by decide +kernel
theorem dL_links_101 : decode cL_links 101 = .ok (.bipush (-71), 2) := by decide +kernel
theorem dL_links_103 : decode cL_links 103 = .ok (.if_icmp .ne 52, 3) := by decide +kernel
theorem dL_links_106 : decode cL_links 106 = .ok (.aload_n 0, 1) := by decide +kernel
theorem dL_links_107 : decode cL_links 107 = .ok (.iload 10, 2) := by decide +kernel
theorem dL_links_109 : decode cL_links 109 = .ok (.iload 13, 2) := by decide +kernel
theorem dL_links_111 : decode cL_links 111 = .ok (.bipush 10, 2) := by decide +kernel
theorem dL_links_113 : decode cL_links 113 = .ok (.invokestatic 97, 3) := by decide +kernel
theorem dL_links_116 : decode cL_links 116 = .ok (.bipush (-72), 2) := by decide +kernel
theorem dL_links_118 : decode cL_links 118 = .ok (.if_icmp .ne 37, 3) := by decide +kernel
theorem dL_links_121 : decode cL_links 121 = .ok (.aload_n 0, 1) := by decide +kernel
theorem dL_links_122 : decode cL_links 122 = .ok (.iload 10, 2) := by decide +kernel
theorem dL_links_124 : decode cL_links 124 = .ok (.iload 13, 2) := by decide +kernel
theorem dL_links_126 : decode cL_links 126 = .ok (.bipush (-2), 2) := by decide +kernel
theorem dL_links_128 : decode cL_links 128 = .ok (.invokestatic 97, 3) := by decide +kernel
theorem dL_links_131 : decode cL_links 131 = .ok (.bipush (-72), 2) := by decide +kernel
theorem dL_links_133 : decode cL_links 133 = .ok (.if_icmp .ne 22, 3) := by decide +kernel
theorem dL_links_136 : decode cL_links 136 = .ok (.aload_n 0, 1) := by decide +kernel
theorem dL_links_137 : decode cL_links 137 = .ok (.iload 10, 2) := by decide +kernel
theorem dL_links_139 : decode cL_links 139 = .ok (.iload 13, 2) := by decide +kernel
theorem dL_links_141 : decode cL_links 141 = .ok (.iload 14, 2) := by decide +kernel
theorem dL_links_143 : decode cL_links 143 = .ok (.invokestatic 97, 3) := by decide +kernel
theorem dL_links_146 : decode cL_links 146 = .ok (.iload 15, 2) := by decide +kernel
theorem dL_links_148 : decode cL_links 148 = .ok (.if_icmp .ne 7, 3) := by decide +kernel
theorem dL_links_151 : decode cL_links 151 = .ok (.iconst 1, 1) := by decide +kernel
theorem dL_links_152 : decode cL_links 152 = .ok (.goto 4, 3) := by decide +kernel
theorem dL_links_155 : decode cL_links 155 = .ok (.iconst 0, 1) := by decide +kernel
theorem dL_links_156 : decode cL_links 156 = .ok (.ireturn, 1) := by decide +kernel
theorem dL_links_157 : decode cL_links 157 = .ok (.iload_n 1, 1) := by decide +kernel
theorem dL_links_158 : decode cL_links 158 = .ok (.bipush 6, 2) := by decide +kernel
theorem dL_links_160 : decode cL_links 160 = .ok (.if_icmp .ge 144, 3) := by decide +kernel
theorem dL_links_163 : decode cL_links 163 = .ok (.iload_n 3, 1) := by decide +kernel
theorem dL_links_164 : decode cL_links 164 = .ok (.bipush 96, 2) := by decide +kernel
theorem dL_links_166 : decode cL_links 166 = .ok (.iand, 1) := by decide +kernel
theorem dL_links_167 : decode cL_links 167 = .ok (.ifCond .ne 7, 3) := by decide +kernel
theorem dL_links_170 : decode cL_links 170 = .ok (.iconst 0, 1) := by decide +kernel
theorem dL_links_171 : decode cL_links 171 = .ok (.goto 28, 3) := by decide +kernel
theorem dL_links_174 : decode cL_links 174 = .ok (.iload_n 3, 1) := by decide +kernel
theorem dL_links_175 : decode cL_links 175 = .ok (.bipush 96, 2) := by decide +kernel
theorem dL_links_177 : decode cL_links 177 = .ok (.iand, 1) := by decide +kernel
theorem dL_links_178 : decode cL_links 178 = .ok (.bipush 32, 2) := by decide +kernel
theorem dL_links_180 : decode cL_links 180 = .ok (.if_icmp .ne 9, 3) := by decide +kernel
theorem dL_links_183 : decode cL_links 183 = .ok (.sipush 1023, 3) := by decide +kernel
theorem dL_links_186 : decode cL_links 186 = .ok (.goto 13, 3) := by decide +kernel
theorem dL_links_189 : decode cL_links 189 = .ok (.iload_n 3, 1) := by decide +kernel
theorem dL_links_190 : decode cL_links 190 = .ok (.bipush 7, 2) := by decide +kernel
theorem dL_links_192 : decode cL_links 192 = .ok (.ishr, 1) := by decide +kernel
theorem dL_links_193 : decode cL_links 193 = .ok (.sipush 1024, 3) := by decide +kernel
theorem dL_links_196 : decode cL_links 196 = .ok (.invokestatic 94, 3) := by decide +kernel
theorem dL_links_199 : decode cL_links 199 = .ok (.istore 14, 2) := by decide +kernel
theorem dL_links_201 : decode cL_links 201 = .ok (.aload 7, 2) := by decide +kernel
theorem dL_links_203 : decode cL_links 203 = .ok (.bipush 6, 2) := by decide +kernel
theorem dL_links_205 : decode cL_links 205 = .ok (.iload 10, 2) := by decide +kernel
theorem dL_links_207 : decode cL_links 207 = .ok (.imul, 1) := by decide +kernel
theorem dL_links_208 : decode cL_links 208 = .ok (.iload 13, 2) := by decide +kernel
theorem dL_links_210 : decode cL_links 210 = .ok (.iadd, 1) := by decide +kernel
theorem dL_links_211 : decode cL_links 211 = .ok (.iaload, 1) := by decide +kernel
theorem dL_links_212 : decode cL_links 212 = .ok (.istore 15, 2) := by decide +kernel
theorem dL_links_214 : decode cL_links 214 = .ok (.aload 7, 2) := by decide +kernel
theorem dL_links_216 : decode cL_links 216 = .ok (.bipush 6, 2) := by decide +kernel
theorem dL_links_218 : decode cL_links 218 = .ok (.iload 10, 2) := by decide +kernel
theorem dL_links_220 : decode cL_links 220 = .ok (.imul, 1) := by decide +kernel
theorem dL_links_221 : decode cL_links 221 = .ok (.iload 13, 2) := by decide +kernel
theorem dL_links_223 : decode cL_links 223 = .ok (.iadd, 1) := by decide +kernel
theorem dL_links_224 : decode cL_links 224 = .ok (.iload 14, 2) := by decide +kernel
theorem dL_links_226 : decode cL_links 226 = .ok (.iastore, 1) := by decide +kernel
theorem dL_links_227 : decode cL_links 227 = .ok (.aload_n 0, 1) := by decide +kernel
theorem dL_links_228 : decode cL_links 228 = .ok (.iconst (-1), 1) := by decide +kernel
theorem dL_links_229 : decode cL_links 229 = .ok (.iload 13, 2) := by decide +kernel
theorem dL_links_231 : decode cL_links 231 = .ok (.iconst 0, 1) := by decide +kernel
theorem dL_links_232 : decode cL_links 232 = .ok (.invokestatic 100, 3) := by decide +kernel
theorem dL_links_235 : decode cL_links 235 = .ok (.bipush (-71), 2) := by decide +kernel
theorem dL_links_237 : decode cL_links 237 = .ok (.if_icmp .ne 65, 3) := by decide +kernel
theorem dL_links_240 : decode cL_links 240 = .ok (.aload_n 0, 1) := by decide +kernel
theorem dL_links_241 : decode cL_links 241 = .ok (.iload 10, 2) := by decide +kernel
theorem dL_links_243 : decode cL_links 243 = .ok (.iconst (-1), 1) := by decide +kernel
theorem dL_links_244 : decode cL_links 244 = .ok (.iconst 0, 1) := by decide +kernel
theorem dL_links_245 : decode cL_links 245 = .ok (.invokestatic 100, 3) := by decide +kernel
theorem dL_links_248 : decode cL_links 248 = .ok (.bipush (-71), 2) := by decide +kernel
theorem dL_links_250 : decode cL_links 250 = .ok (.if_icmp .ne 52, 3) := by decide +kernel
theorem dL_links_253 : decode cL_links 253 = .ok (.aload_n 0, 1) := by decide +kernel
theorem dL_links_254 : decode cL_links 254 = .ok (.iload 10, 2) := by decide +kernel
theorem dL_links_256 : decode cL_links 256 = .ok (.iload 13, 2) := by decide +kernel
theorem dL_links_258 : decode cL_links 258 = .ok (.sipush 1024, 3) := by decide +kernel
theorem dL_links_261 : decode cL_links 261 = .ok (.invokestatic 100, 3) := by decide +kernel
theorem dL_links_264 : decode cL_links 264 = .ok (.bipush (-72), 2) := by decide +kernel
theorem dL_links_266 : decode cL_links 266 = .ok (.if_icmp .ne 36, 3) := by decide +kernel
theorem dL_links_269 : decode cL_links 269 = .ok (.aload_n 0, 1) := by decide +kernel
theorem dL_links_270 : decode cL_links 270 = .ok (.iload 10, 2) := by decide +kernel
theorem dL_links_272 : decode cL_links 272 = .ok (.iload 13, 2) := by decide +kernel
theorem dL_links_274 : decode cL_links 274 = .ok (.iconst (-1), 1) := by decide +kernel
theorem dL_links_275 : decode cL_links 275 = .ok (.invokestatic 100, 3) := by decide +kernel
theorem dL_links_278 : decode cL_links 278 = .ok (.bipush (-72), 2) := by decide +kernel
theorem dL_links_280 : decode cL_links 280 = .ok (.if_icmp .ne 22, 3) := by decide +kernel
theorem dL_links_283 : decode cL_links 283 = .ok (.aload_n 0, 1) := by decide +kernel
theorem dL_links_284 : decode cL_links 284 = .ok (.iload 10, 2) := by decide +kernel
theorem dL_links_286 : decode cL_links 286 = .ok (.iload 13, 2) := by decide +kernel
theorem dL_links_288 : decode cL_links 288 = .ok (.iload 14, 2) := by decide +kernel
theorem dL_links_290 : decode cL_links 290 = .ok (.invokestatic 100, 3) := by decide +kernel
theorem dL_links_293 : decode cL_links 293 = .ok (.iload 15, 2) := by decide +kernel
theorem dL_links_295 : decode cL_links 295 = .ok (.if_icmp .ne 7, 3) := by decide +kernel
theorem dL_links_298 : decode cL_links 298 = .ok (.iconst 1, 1) := by decide +kernel
theorem dL_links_299 : decode cL_links 299 = .ok (.goto 4, 3) := by decide +kernel
theorem dL_links_302 : decode cL_links 302 = .ok (.iconst 0, 1) := by decide +kernel
theorem dL_links_303 : decode cL_links 303 = .ok (.ireturn, 1) := by decide +kernel
theorem dL_links_304 : decode cL_links 304 = .ok (.iload_n 1, 1) := by decide +kernel
theorem dL_links_305 : decode cL_links 305 = .ok (.bipush 6, 2) := by decide +kernel
theorem dL_links_307 : decode cL_links 307 = .ok (.if_icmp .ne 77, 3) := by decide +kernel
theorem dL_links_310 : decode cL_links 310 = .ok (.iload_n 2, 1) := by decide +kernel
theorem dL_links_311 : decode cL_links 311 = .ok (.bipush 48, 2) := by decide +kernel
theorem dL_links_313 : decode cL_links 313 = .ok (.iand, 1) := by decide +kernel
theorem dL_links_314 : decode cL_links 314 = .ok (.ifCond .ne 11, 3) := by decide +kernel
theorem dL_links_317 : decode cL_links 317 = .ok (.iload_n 3, 1) := by decide +kernel
theorem dL_links_318 : decode cL_links 318 = .ok (.iconst 5, 1) := by decide +kernel
theorem dL_links_319 : decode cL_links 319 = .ok (.invokestatic 94, 3) := by decide +kernel
theorem dL_links_322 : decode cL_links 322 = .ok (.goto 5, 3) := by decide +kernel
theorem dL_links_325 : decode cL_links 325 = .ok (.iload 10, 2) := by decide +kernel
theorem dL_links_327 : decode cL_links 327 = .ok (.istore 14, 2) := by decide +kernel
theorem dL_links_329 : decode cL_links 329 = .ok (.aload 9, 2) := by decide +kernel
theorem dL_links_331 : decode cL_links 331 = .ok (.iload 11, 2) := by decide +kernel
theorem dL_links_333 : decode cL_links 333 = .ok (.bipush 6, 2) := by decide +kernel
theorem dL_links_335 : decode cL_links 335 = .ok (.iadd, 1) := by decide +kernel
theorem dL_links_336 : decode cL_links 336 = .ok (.iaload, 1) := by decide +kernel
theorem dL_links_337 : decode cL_links 337 = .ok (.invokestatic 83, 3) := by decide +kernel
theorem dL_links_340 : decode cL_links 340 = .ok (.istore 15, 2) := by decide +kernel
theorem dL_links_342 : decode cL_links 342 = .ok (.aload 9, 2) := by decide +kernel
theorem dL_links_344 : decode cL_links 344 = .ok (.iload 11, 2) := by decide +kernel
theorem dL_links_346 : decode cL_links 346 = .ok (.bipush 6, 2) := by decide +kernel
theorem dL_links_348 : decode cL_links 348 = .ok (.iadd, 1) := by decide +kernel
theorem dL_links_349 : decode cL_links 349 = .ok (.iload 14, 2) := by decide +kernel
theorem dL_links_351 : decode cL_links 351 = .ok (.iastore, 1) := by decide +kernel
theorem dL_links_352 : decode cL_links 352 = .ok (.aload_n 0, 1) := by decide +kernel
theorem dL_links_353 : decode cL_links 353 = .ok (.iconst 2, 1) := by decide +kernel
theorem dL_links_354 : decode cL_links 354 = .ok (.iconst 5, 1) := by decide +kernel
theorem dL_links_355 : decode cL_links 355 = .ok (.iconst 5, 1) := by decide +kernel
theorem dL_links_356 : decode cL_links 356 = .ok (.invokestatic 102, 3) := by decide +kernel
theorem dL_links_359 : decode cL_links 359 = .ok (.ifCond .ne 23, 3) := by decide +kernel
theorem dL_links_362 : decode cL_links 362 = .ok (.aload_n 0, 1) := by decide +kernel
theorem dL_links_363 : decode cL_links 363 = .ok (.iload 10, 2) := by decide +kernel
theorem dL_links_365 : decode cL_links 365 = .ok (.iload 14, 2) := by decide +kernel
theorem dL_links_367 : decode cL_links 367 = .ok (.invokestatic 83, 3) := by decide +kernel
theorem dL_links_370 : decode cL_links 370 = .ok (.iload 15, 2) := by decide +kernel
theorem dL_links_372 : decode cL_links 372 = .ok (.invokestatic 102, 3) := by decide +kernel
theorem dL_links_375 : decode cL_links 375 = .ok (.ifCond .eq 7, 3) := by decide +kernel
theorem dL_links_378 : decode cL_links 378 = .ok (.iconst 1, 1) := by decide +kernel
theorem dL_links_379 : decode cL_links 379 = .ok (.goto 4, 3) := by decide +kernel
theorem dL_links_382 : decode cL_links 382 = .ok (.iconst 0, 1) := by decide +kernel
theorem dL_links_383 : decode cL_links 383 = .ok (.ireturn, 1) := by decide +kernel
theorem dL_links_384 : decode cL_links 384 = .ok (.iload_n 1, 1) := by decide +kernel
theorem dL_links_385 : decode cL_links 385 = .ok (.bipush 10, 2) := by decide +kernel
theorem dL_links_387 : decode cL_links 387 = .ok (.if_icmp .ge 132, 3) := by decide +kernel
theorem dL_links_390 : decode cL_links 390 = .ok (.aload 9, 2) := by decide +kernel
theorem dL_links_392 : decode cL_links 392 = .ok (.iload 11, 2) := by decide +kernel
theorem dL_links_394 : decode cL_links 394 = .ok (.iaload, 1) := by decide +kernel
