theorem dL_bundles_99 : decode cL_bundles 99 = .ok (.dup2, 1) := by decide +kernel
theorem dL_bundles_100 : decode cL_bundles 100 = .ok (.iaload, 1) := by decide +kernel
theorem dL_bundles_101 : decode cL_bundles 101 = .ok (.iload 8, 2) := by decide +kernel
theorem dL_bundles_103 : decode cL_bundles 103 = .ok (.iadd, 1) := by decide +kernel
theorem dL_bundles_104 : decode cL_bundles 104 = .ok (.iastore, 1) := by decide +kernel
theorem dL_bundles_105 : decode cL_bundles 105 = .ok (.aload 4, 2) := by decide +kernel
theorem dL_bundles_107 : decode cL_bundles 107 = .ok (.aload 7, 2) := by decide +kernel
theorem dL_bundles_109 : decode cL_bundles 109 = .ok (.bipush 7, 2) := by decide +kernel
theorem dL_bundles_111 : decode cL_bundles 111 = .ok (.iaload, 1) := by decide +kernel
theorem dL_bundles_112 : decode cL_bundles 112 = .ok (.aload 7, 2) := by decide +kernel
theorem dL_bundles_114 : decode cL_bundles 114 = .ok (.bipush 6, 2) := by decide +kernel
theorem dL_bundles_116 : decode cL_bundles 116 = .ok (.iaload, 1) := by decide +kernel
theorem dL_bundles_117 : decode cL_bundles 117 = .ok (.iastore, 1) := by decide +kernel
theorem dL_bundles_118 : decode cL_bundles 118 = .ok (.aload_n 0, 1) := by decide +kernel
theorem dL_bundles_119 : decode cL_bundles 119 = .ok (.iload 8, 2) := by decide +kernel
theorem dL_bundles_121 : decode cL_bundles 121 = .ok (.invokestatic 131, 3) := by decide +kernel
theorem dL_bundles_124 : decode cL_bundles 124 = .ok (.aload 4, 2) := by decide +kernel
theorem dL_bundles_126 : decode cL_bundles 126 = .ok (.aload 7, 2) := by decide +kernel
theorem dL_bundles_128 : decode cL_bundles 128 = .ok (.bipush 7, 2) := by decide +kernel
theorem dL_bundles_130 : decode cL_bundles 130 = .ok (.iaload, 1) := by decide +kernel
theorem dL_bundles_131 : decode cL_bundles 131 = .ok (.iconst 1, 1) := by decide +kernel
theorem dL_bundles_132 : decode cL_bundles 132 = .ok (.isub, 1) := by decide +kernel
theorem dL_bundles_133 : decode cL_bundles 133 = .ok (.iaload, 1) := by decide +kernel
theorem dL_bundles_134 : decode cL_bundles 134 = .ok (.if_icmp .ne 7, 3) := by decide +kernel
theorem dL_bundles_137 : decode cL_bundles 137 = .ok (.iconst 1, 1) := by decide +kernel
theorem dL_bundles_138 : decode cL_bundles 138 = .ok (.goto 4, 3) := by decide +kernel
theorem dL_bundles_141 : decode cL_bundles 141 = .ok (.iconst 0, 1) := by decide +kernel
theorem dL_bundles_142 : decode cL_bundles 142 = .ok (.ireturn, 1) := by decide +kernel
theorem dL_bundles_143 : decode cL_bundles 143 = .ok (.iload_n 2, 1) := by decide +kernel
theorem dL_bundles_144 : decode cL_bundles 144 = .ok (.iconst 3, 1) := by decide +kernel
theorem dL_bundles_145 : decode cL_bundles 145 = .ok (.invokestatic 94, 3) := by decide +kernel
theorem dL_bundles_148 : decode cL_bundles 148 = .ok (.istore 8, 2) := by decide +kernel
theorem dL_bundles_150 : decode cL_bundles 150 = .ok (.iload 8, 2) := by decide +kernel
theorem dL_bundles_152 : decode cL_bundles 152 = .ok (.iconst 3, 1) := by decide +kernel
theorem dL_bundles_153 : decode cL_bundles 153 = .ok (.aload 7, 2) := by decide +kernel
theorem dL_bundles_155 : decode cL_bundles 155 = .ok (.iload 8, 2) := by decide +kernel
theorem dL_bundles_157 : decode cL_bundles 157 = .ok (.iaload, 1) := by decide +kernel
theorem dL_bundles_158 : decode cL_bundles 158 = .ok (.imul, 1) := by decide +kernel
theorem dL_bundles_159 : decode cL_bundles 159 = .ok (.iadd, 1) := by decide +kernel
theorem dL_bundles_160 : decode cL_bundles 160 = .ok (.istore 9, 2) := by decide +kernel
theorem dL_bundles_162 : decode cL_bundles 162 = .ok (.aload_n 0, 1) := by decide +kernel
theorem dL_bundles_163 : decode cL_bundles 163 = .ok (.iconst 3, 1) := by decide +kernel
theorem dL_bundles_164 : decode cL_bundles 164 = .ok (.invokestatic 133, 3) := by decide +kernel
theorem dL_bundles_167 : decode cL_bundles 167 = .ok (.bipush (-71), 2) := by decide +kernel
theorem dL_bundles_169 : decode cL_bundles 169 = .ok (.if_icmp .ne 13, 3) := by decide +kernel
theorem dL_bundles_172 : decode cL_bundles 172 = .ok (.aload_n 0, 1) := by decide +kernel
theorem dL_bundles_173 : decode cL_bundles 173 = .ok (.iconst (-1), 1) := by decide +kernel
theorem dL_bundles_174 : decode cL_bundles 174 = .ok (.invokestatic 135, 3) := by decide +kernel
theorem dL_bundles_177 : decode cL_bundles 177 = .ok (.bipush (-71), 2) := by decide +kernel
theorem dL_bundles_179 : decode cL_bundles 179 = .ok (.if_icmp .eq 5, 3) := by decide +kernel
theorem dL_bundles_182 : decode cL_bundles 182 = .ok (.iconst 0, 1) := by decide +kernel
theorem dL_bundles_183 : decode cL_bundles 183 = .ok (.ireturn, 1) := by decide +kernel
theorem dL_bundles_184 : decode cL_bundles 184 = .ok (.iload 9, 2) := by decide +kernel
theorem dL_bundles_186 : decode cL_bundles 186 = .ok (.aload 7, 2) := by decide +kernel
theorem dL_bundles_188 : decode cL_bundles 188 = .ok (.bipush 6, 2) := by decide +kernel
theorem dL_bundles_190 : decode cL_bundles 190 = .ok (.iaload, 1) := by decide +kernel
theorem dL_bundles_191 : decode cL_bundles 191 = .ok (.if_icmp .lt 31, 3) := by decide +kernel
theorem dL_bundles_194 : decode cL_bundles 194 = .ok (.aload_n 0, 1) := by decide +kernel
theorem dL_bundles_195 : decode cL_bundles 195 = .ok (.iload 8, 2) := by decide +kernel
theorem dL_bundles_197 : decode cL_bundles 197 = .ok (.invokestatic 133, 3) := by decide +kernel
theorem dL_bundles_200 : decode cL_bundles 200 = .ok (.bipush (-73), 2) := by decide +kernel
theorem dL_bundles_202 : decode cL_bundles 202 = .ok (.if_icmp .ne 18, 3) := by decide +kernel
theorem dL_bundles_205 : decode cL_bundles 205 = .ok (.aload_n 0, 1) := by decide +kernel
theorem dL_bundles_206 : decode cL_bundles 206 = .ok (.iload 8, 2) := by decide +kernel
theorem dL_bundles_208 : decode cL_bundles 208 = .ok (.invokestatic 135, 3) := by decide +kernel
theorem dL_bundles_211 : decode cL_bundles 211 = .ok (.bipush (-73), 2) := by decide +kernel
theorem dL_bundles_213 : decode cL_bundles 213 = .ok (.if_icmp .ne 7, 3) := by decide +kernel
theorem dL_bundles_216 : decode cL_bundles 216 = .ok (.iconst 1, 1) := by decide +kernel
theorem dL_bundles_217 : decode cL_bundles 217 = .ok (.goto 4, 3) := by decide +kernel
theorem dL_bundles_220 : decode cL_bundles 220 = .ok (.iconst 0, 1) := by decide +kernel
theorem dL_bundles_221 : decode cL_bundles 221 = .ok (.ireturn, 1) := by decide +kernel
theorem dL_bundles_222 : decode cL_bundles 222 = .ok (.aload 7, 2) := by decide +kernel
theorem dL_bundles_224 : decode cL_bundles 224 = .ok (.iload 8, 2) := by decide +kernel
theorem dL_bundles_226 : decode cL_bundles 226 = .ok (.dup2, 1) := by decide +kernel
theorem dL_bundles_227 : decode cL_bundles 227 = .ok (.iaload, 1) := by decide +kernel
theorem dL_bundles_228 : decode cL_bundles 228 = .ok (.iconst 1, 1) := by decide +kernel
theorem dL_bundles_229 : decode cL_bundles 229 = .ok (.iadd, 1) := by decide +kernel
theorem dL_bundles_230 : decode cL_bundles 230 = .ok (.iastore, 1) := by decide +kernel
theorem dL_bundles_231 : decode cL_bundles 231 = .ok (.iload_n 1, 1) := by decide +kernel
theorem dL_bundles_232 : decode cL_bundles 232 = .ok (.iconst 2, 1) := by decide +kernel
theorem dL_bundles_233 : decode cL_bundles 233 = .ok (.if_icmp .ne 20, 3) := by decide +kernel
theorem dL_bundles_236 : decode cL_bundles 236 = .ok (.aload_n 0, 1) := by decide +kernel
theorem dL_bundles_237 : decode cL_bundles 237 = .ok (.iload 8, 2) := by decide +kernel
theorem dL_bundles_239 : decode cL_bundles 239 = .ok (.invokestatic 135, 3) := by decide +kernel
theorem dL_bundles_242 : decode cL_bundles 242 = .ok (.iload 9, 2) := by decide +kernel
theorem dL_bundles_244 : decode cL_bundles 244 = .ok (.if_icmp .ne 7, 3) := by decide +kernel
theorem dL_bundles_247 : decode cL_bundles 247 = .ok (.iconst 1, 1) := by decide +kernel
theorem dL_bundles_248 : decode cL_bundles 248 = .ok (.goto 4, 3) := by decide +kernel
theorem dL_bundles_251 : decode cL_bundles 251 = .ok (.iconst 0, 1) := by decide +kernel
theorem dL_bundles_252 : decode cL_bundles 252 = .ok (.ireturn, 1) := by decide +kernel
theorem dL_bundles_253 : decode cL_bundles 253 = .ok (.aload 7, 2) := by decide +kernel
theorem dL_bundles_255 : decode cL_bundles 255 = .ok (.bipush 9, 2) := by decide +kernel
theorem dL_bundles_257 : decode cL_bundles 257 = .ok (.iaload, 1) := by decide +kernel
theorem dL_bundles_258 : decode cL_bundles 258 = .ok (.istore 10, 2) := by decide +kernel
theorem dL_bundles_260 : decode cL_bundles 260 = .ok (.aload 7, 2) := by decide +kernel
theorem dL_bundles_262 : decode cL_bundles 262 = .ok (.iconst 3, 1) := by decide +kernel
theorem dL_bundles_263 : decode cL_bundles 263 = .ok (.iload 8, 2) := by decide +kernel
theorem dL_bundles_265 : decode cL_bundles 265 = .ok (.iadd, 1) := by decide +kernel
theorem dL_bundles_266 : decode cL_bundles 266 = .ok (.iload 9, 2) := by decide +kernel
theorem dL_bundles_268 : decode cL_bundles 268 = .ok (.iastore, 1) := by decide +kernel
theorem dL_bundles_269 : decode cL_bundles 269 = .ok (.aload 5, 2) := by decide +kernel
theorem dL_bundles_271 : decode cL_bundles 271 = .ok (.iconst 0, 1) := by decide +kernel
theorem dL_bundles_272 : decode cL_bundles 272 = .ok (.dup2, 1) := by decide +kernel
theorem dL_bundles_273 : decode cL_bundles 273 = .ok (.laload, 1) := by decide +kernel
theorem dL_bundles_274 : decode cL_bundles 274 = .ok (.lconst 1, 1) := by decide +kernel
theorem dL_bundles_275 : decode cL_bundles 275 = .ok (.iload 9, 2) := by decide +kernel
theorem dL_bundles_277 : decode cL_bundles 277 = .ok (.lshl, 1) := by decide +kernel
theorem dL_bundles_278 : decode cL_bundles 278 = .ok (.lor, 1) := by decide +kernel
theorem dL_bundles_279 : decode cL_bundles 279 = .ok (.lastore, 1) := by decide +kernel
theorem dL_bundles_280 : decode cL_bundles 280 = .ok (.aload 4, 2) := by decide +kernel
theorem dL_bundles_282 : decode cL_bundles 282 = .ok (.aload 5, 2) := by decide +kernel
theorem dL_bundles_284 : decode cL_bundles 284 = .ok (.aload 6, 2) := by decide +kernel
theorem dL_bundles_286 : decode cL_bundles 286 = .ok (.aload 7, 2) := by decide +kernel
theorem dL_bundles_288 : decode cL_bundles 288 = .ok (.invokestatic 137, 3) := by decide +kernel
theorem dL_bundles_291 : decode cL_bundles 291 = .ok (.aload_n 0, 1) := by decide +kernel
theorem dL_bundles_292 : decode cL_bundles 292 = .ok (.iload 8, 2) := by decide +kernel
theorem dL_bundles_294 : decode cL_bundles 294 = .ok (.invokestatic 133, 3) := by decide +kernel
theorem dL_bundles_297 : decode cL_bundles 297 = .ok (.aload 7, 2) := by decide +kernel
theorem dL_bundles_299 : decode cL_bundles 299 = .ok (.bipush 9, 2) := by decide +kernel
theorem dL_bundles_301 : decode cL_bundles 301 = .ok (.iaload, 1) := by decide +kernel
theorem dL_bundles_302 : decode cL_bundles 302 = .ok (.iload 10, 2) := by decide +kernel
theorem dL_bundles_304 : decode cL_bundles 304 = .ok (.isub, 1) := by decide +kernel
theorem dL_bundles_305 : decode cL_bundles 305 = .ok (.if_icmp .ne 7, 3) := by decide +kernel
theorem dL_bundles_308 : decode cL_bundles 308 = .ok (.iconst 1, 1) := by decide +kernel
theorem dL_bundles_309 : decode cL_bundles 309 = .ok (.goto 4, 3) := by decide +kernel
theorem dL_bundles_312 : decode cL_bundles 312 = .ok (.iconst 0, 1) := by decide +kernel
theorem dL_bundles_313 : decode cL_bundles 313 = .ok (.ireturn, 1) := by decide +kernel
theorem dL_isTold_0 : decode cL_isTold 0 = .ok (.iconst 0, 1) := by decide +kernel
theorem dL_isTold_1 : decode cL_isTold 1 = .ok (.istore 5, 2) := by decide +kernel
theorem dL_isTold_3 : decode cL_isTold 3 = .ok (.iload 5, 2) := by decide +kernel
theorem dL_isTold_5 : decode cL_isTold 5 = .ok (.iconst 2, 1) := by decide +kernel
theorem dL_isTold_6 : decode cL_isTold 6 = .ok (.if_icmp .ge 140, 3) := by decide +kernel
theorem dL_isTold_9 : decode cL_isTold 9 = .ok (.bipush 8, 2) := by decide +kernel
theorem dL_isTold_11 : decode cL_isTold 11 = .ok (.iload 5, 2) := by decide +kernel
theorem dL_isTold_13 : decode cL_isTold 13 = .ok (.imul, 1) := by decide +kernel
theorem dL_isTold_14 : decode cL_isTold 14 = .ok (.istore 6, 2) := by decide +kernel
theorem dL_isTold_16 : decode cL_isTold 16 = .ok (.aload_n 0, 1) := by decide +kernel
theorem dL_isTold_17 : decode cL_isTold 17 = .ok (.iload 5, 2) := by decide +kernel
theorem dL_isTold_19 : decode cL_isTold 19 = .ok (.invokestatic 141, 3) := by decide +kernel
theorem dL_isTold_22 : decode cL_isTold 22 = .ok (.aload_n 2, 1) := by decide +kernel
theorem dL_isTold_23 : decode cL_isTold 23 = .ok (.iload 6, 2) := by decide +kernel
theorem dL_isTold_25 : decode cL_isTold 25 = .ok (.iaload, 1) := by decide +kernel
theorem dL_isTold_26 : decode cL_isTold 26 = .ok (.if_icmp .ne 73, 3) := by decide +kernel
theorem dL_isTold_29 : decode cL_isTold 29 = .ok (.aload_n 0, 1) := by decide +kernel
theorem dL_isTold_30 : decode cL_isTold 30 = .ok (.iload 5, 2) := by decide +kernel
theorem dL_isTold_32 : decode cL_isTold 32 = .ok (.invokevirtual 143, 3) := by decide +kernel
theorem dL_isTold_35 : decode cL_isTold 35 = .ok (.aload_n 2, 1) := by decide +kernel
theorem dL_isTold_36 : decode cL_isTold 36 = .ok (.iload 6, 2) := by decide +kernel
theorem dL_isTold_38 : decode cL_isTold 38 = .ok (.iconst 2, 1) := by decide +kernel
theorem dL_isTold_39 : decode cL_isTold 39 = .ok (.iadd, 1) := by decide +kernel
theorem dL_isTold_40 : decode cL_isTold 40 = .ok (.iaload, 1) := by decide +kernel
theorem dL_isTold_41 : decode cL_isTold 41 = .ok (.if_icmp .ne 58, 3) := by decide +kernel
theorem dL_isTold_44 : decode cL_isTold 44 = .ok (.aload_n 0, 1) := by decide +kernel
theorem dL_isTold_45 : decode cL_isTold 45 = .ok (.iload 5, 2) := by decide +kernel
theorem dL_isTold_47 : decode cL_isTold 47 = .ok (.invokevirtual 146, 3) := by decide +kernel
theorem dL_isTold_50 : decode cL_isTold 50 = .ok (.aload_n 2, 1) := by decide +kernel
theorem dL_isTold_51 : decode cL_isTold 51 = .ok (.iload 6, 2) := by decide +kernel
theorem dL_isTold_53 : decode cL_isTold 53 = .ok (.iconst 4, 1) := by decide +kernel
theorem dL_isTold_54 : decode cL_isTold 54 = .ok (.iadd, 1) := by decide +kernel
theorem dL_isTold_55 : decode cL_isTold 55 = .ok (.iaload, 1) := by decide +kernel
theorem dL_isTold_56 : decode cL_isTold 56 = .ok (.iconst 1, 1) := by decide +kernel
theorem dL_isTold_57 : decode cL_isTold 57 = .ok (.if_icmp .ne 7, 3) := by decide +kernel
theorem dL_isTold_60 : decode cL_isTold 60 = .ok (.iconst 1, 1) := by decide +kernel
theorem dL_isTold_61 : decode cL_isTold 61 = .ok (.goto 4, 3) := by decide +kernel
theorem dL_isTold_64 : decode cL_isTold 64 = .ok (.iconst 0, 1) := by decide +kernel
theorem dL_isTold_65 : decode cL_isTold 65 = .ok (.if_icmp .ne 34, 3) := by decide +kernel
theorem dL_isTold_68 : decode cL_isTold 68 = .ok (.aload_n 0, 1) := by decide +kernel
theorem dL_isTold_69 : decode cL_isTold 69 = .ok (.iload 5, 2) := by decide +kernel
theorem dL_isTold_71 : decode cL_isTold 71 = .ok (.invokestatic 150, 3) := by decide +kernel
theorem dL_isTold_74 : decode cL_isTold 74 = .ok (.aload_n 2, 1) := by decide +kernel
theorem dL_isTold_75 : decode cL_isTold 75 = .ok (.iload 6, 2) := by decide +kernel
theorem dL_isTold_77 : decode cL_isTold 77 = .ok (.bipush 7, 2) := by decide +kernel
theorem dL_isTold_79 : decode cL_isTold 79 = .ok (.iadd, 1) := by decide +kernel
theorem dL_isTold_80 : decode cL_isTold 80 = .ok (.iaload, 1) := by decide +kernel
theorem dL_isTold_81 : decode cL_isTold 81 = .ok (.if_icmp .ne 18, 3) := by decide +kernel
theorem dL_isTold_84 : decode cL_isTold 84 = .ok (.aload_n 0, 1) := by decide +kernel
theorem dL_isTold_85 : decode cL_isTold 85 = .ok (.iload 5, 2) := by decide +kernel
theorem dL_isTold_87 : decode cL_isTold 87 = .ok (.invokevirtual 152, 3) := by decide +kernel
theorem dL_isTold_90 : decode cL_isTold 90 = .ok (.aload_n 2, 1) := by decide +kernel
theorem dL_isTold_91 : decode cL_isTold 91 = .ok (.iload 6, 2) := by decide +kernel
theorem dL_isTold_93 : decode cL_isTold 93 = .ok (.iconst 5, 1) := by decide +kernel
theorem dL_isTold_94 : decode cL_isTold 94 = .ok (.iadd, 1) := by decide +kernel
theorem dL_isTold_95 : decode cL_isTold 95 = .ok (.iaload, 1) := by decide +kernel
theorem dL_isTold_96 : decode cL_isTold 96 = .ok (.if_icmp .eq 5, 3) := by decide +kernel
theorem dL_isTold_99 : decode cL_isTold 99 = .ok (.iconst 0, 1) := by decide +kernel
theorem dL_isTold_100 : decode cL_isTold 100 = .ok (.ireturn, 1) := by decide +kernel
theorem dL_isTold_101 : decode cL_isTold 101 = .ok (.iconst 0, 1) := by decide +kernel
theorem dL_isTold_102 : decode cL_isTold 102 = .ok (.istore 7, 2) := by decide +kernel
theorem dL_isTold_104 : decode cL_isTold 104 = .ok (.iload 7, 2) := by decide +kernel
theorem dL_isTold_106 : decode cL_isTold 106 = .ok (.bipush 6, 2) := by decide +kernel
theorem dL_isTold_108 : decode cL_isTold 108 = .ok (.if_icmp .ge 32, 3) := by decide +kernel
theorem dL_isTold_111 : decode cL_isTold 111 = .ok (.aload_n 0, 1) := by decide +kernel
theorem dL_isTold_112 : decode cL_isTold 112 = .ok (.iload 5, 2) := by decide +kernel
theorem dL_isTold_114 : decode cL_isTold 114 = .ok (.iload 7, 2) := by decide +kernel
theorem dL_isTold_116 : decode cL_isTold 116 = .ok (.invokestatic 155, 3) := by decide +kernel
theorem dL_isTold_119 : decode cL_isTold 119 = .ok (.aload_n 1, 1) := by decide +kernel
theorem dL_isTold_120 : decode cL_isTold 120 = .ok (.bipush 6, 2) := by decide +kernel
theorem dL_isTold_122 : decode cL_isTold 122 = .ok (.iload 5, 2) := by decide +kernel
theorem dL_isTold_124 : decode cL_isTold 124 = .ok (.imul, 1) := by decide +kernel
theorem dL_isTold_125 : decode cL_isTold 125 = .ok (.iload 7, 2) := by decide +kernel
theorem dL_isTold_127 : decode cL_isTold 127 = .ok (.iadd, 1) := by decide +kernel
theorem dL_isTold_128 : decode cL_isTold 128 = .ok (.iaload, 1) := by decide +kernel
theorem dL_isTold_129 : decode cL_isTold 129 = .ok (.if_icmp .eq 5, 3) := by decide +kernel
theorem dL_isTold_132 : decode cL_isTold 132 = .ok (.iconst 0, 1) := by decide +kernel
theorem dL_isTold_133 : decode cL_isTold 133 = .ok (.ireturn, 1) := by decide +kernel
theorem dL_isTold_134 : decode cL_isTold 134 = .ok (.iinc 7 1, 3) := by decide +kernel
theorem dL_isTold_137 : decode cL_isTold 137 = .ok (.goto (-33), 3) := by decide +kernel
theorem dL_isTold_140 : decode cL_isTold 140 = .ok (.iinc 5 1, 3) := by decide +kernel
theorem dL_isTold_143 : decode cL_isTold 143 = .ok (.goto (-140), 3) := by decide +kernel
theorem dL_isTold_146 : decode cL_isTold 146 = .ok (.iconst 0, 1) := by decide +kernel
theorem dL_isTold_147 : decode cL_isTold 147 = .ok (.istore 5, 2) := by decide +kernel
theorem dL_isTold_149 : decode cL_isTold 149 = .ok (.iload 5, 2) := by decide +kernel
theorem dL_isTold_151 : decode cL_isTold 151 = .ok (.aload 4, 2) := by decide +kernel
theorem dL_isTold_153 : decode cL_isTold 153 = .ok (.bipush 9, 2) := by decide +kernel
theorem dL_isTold_155 : decode cL_isTold 155 = .ok (.iaload, 1) := by decide +kernel
theorem dL_isTold_156 : decode cL_isTold 156 = .ok (.if_icmp .ge 24, 3) := by decide +kernel
theorem dL_isTold_159 : decode cL_isTold 159 = .ok (.aload_n 0, 1) := by decide +kernel
theorem dL_isTold_160 : decode cL_isTold 160 = .ok (.iload 5, 2) := by decide +kernel
theorem dL_isTold_162 : decode cL_isTold 162 = .ok (.invokestatic 158, 3) := by decide +kernel
theorem dL_isTold_165 : decode cL_isTold 165 = .ok (.aload_n 3, 1) := by decide +kernel
theorem dL_isTold_166 : decode cL_isTold 166 = .ok (.iload 5, 2) := by decide +kernel
theorem dL_isTold_168 : decode cL_isTold 168 = .ok (.iaload, 1) := by decide +kernel
theorem dL_isTold_169 : decode cL_isTold 169 = .ok (.if_icmp .eq 5, 3) := by decide +kernel
theorem dL_isTold_172 : decode cL_isTold 172 = .ok (.iconst 0, 1) := by decide +kernel
theorem dL_isTold_173 : decode cL_isTold 173 = .ok (.ireturn, 1) := by decide +kernel
theorem dL_isTold_174 : decode cL_isTold 174 = .ok (.iinc 5 1, 3) := by decide +kernel
theorem dL_isTold_177 : decode cL_isTold 177 = .ok (.goto (-28), 3) := by decide +kernel
theorem dL_isTold_180 : decode cL_isTold 180 = .ok (.aload_n 0, 1) := by decide +kernel
theorem dL_isTold_181 : decode cL_isTold 181 = .ok (.invokevirtual 160, 3) := by decide +kernel
theorem dL_isTold_184 : decode cL_isTold 184 = .ok (.aload 4, 2) := by decide +kernel
theorem dL_isTold_186 : decode cL_isTold 186 = .ok (.bipush 9, 2) := by decide +kernel
theorem dL_isTold_188 : decode cL_isTold 188 = .ok (.iaload, 1) := by decide +kernel
theorem dL_isTold_189 : decode cL_isTold 189 = .ok (.if_icmp .ne 119, 3) := by decide +kernel
theorem dL_isTold_192 : decode cL_isTold 192 = .ok (.aload_n 0, 1) := by decide +kernel
theorem dL_isTold_193 : decode cL_isTold 193 = .ok (.invokevirtual 164, 3) := by decide +kernel
theorem dL_isTold_196 : decode cL_isTold 196 = .ok (.aload 4, 2) := by decide +kernel
theorem dL_isTold_198 : decode cL_isTold 198 = .ok (.bipush 8, 2) := by decide +kernel
theorem dL_isTold_200 : decode cL_isTold 200 = .ok (.iaload, 1) := by decide +kernel
theorem dL_isTold_201 : decode cL_isTold 201 = .ok (.if_icmp .ne 107, 3) := by decide +kernel
theorem dL_isTold_204 : decode cL_isTold 204 = .ok (.aload_n 0, 1) := by decide +kernel
theorem dL_isTold_205 : decode cL_isTold 205 = .ok (.aload 4, 2) := by decide +kernel
theorem dL_isTold_207 : decode cL_isTold 207 = .ok (.bipush 9, 2) := by decide +kernel
theorem dL_isTold_209 : decode cL_isTold 209 = .ok (.iaload, 1) := by decide +kernel
theorem dL_isTold_210 : decode cL_isTold 210 = .ok (.invokestatic 158, 3) := by decide +kernel
theorem dL_isTold_213 : decode cL_isTold 213 = .ok (.bipush (-71), 2) := by decide +kernel
theorem dL_isTold_215 : decode cL_isTold 215 = .ok (.if_icmp .ne 93, 3) := by decide +kernel
theorem dL_isTold_218 : decode cL_isTold 218 = .ok (.aload_n 0, 1) := by decide +kernel
theorem dL_isTold_219 : decode cL_isTold 219 = .ok (.iconst (-1), 1) := by decide +kernel
theorem dL_isTold_220 : decode cL_isTold 220 = .ok (.invokestatic 158, 3) := by decide +kernel
theorem dL_isTold_223 : decode cL_isTold 223 = .ok (.bipush (-71), 2) := by decide +kernel
theorem dL_isTold_225 : decode cL_isTold 225 = .ok (.if_icmp .ne 83, 3) := by decide +kernel
theorem dL_isTold_228 : decode cL_isTold 228 = .ok (.aload_n 0, 1) := by decide +kernel
theorem dL_isTold_229 : decode cL_isTold 229 = .ok (.ldc 68, 2) := by decide +kernel
theorem dL_isTold_231 : decode cL_isTold 231 = .ok (.invokestatic 158, 3) := by decide +kernel
theorem dL_isTold_234 : decode cL_isTold 234 = .ok (.bipush (-71), 2) := by decide +kernel
theorem dL_isTold_236 : decode cL_isTold 236 = .ok (.if_icmp .ne 72, 3) := by decide +kernel
theorem dL_isTold_239 : decode cL_isTold 239 = .ok (.aload_n 0, 1) := by decide +kernel
theorem dL_isTold_240 : decode cL_isTold 240 = .ok (.iconst 2, 1) := by decide +kernel
theorem dL_isTold_241 : decode cL_isTold 241 = .ok (.invokestatic 141, 3) := by decide +kernel
theorem dL_isTold_244 : decode cL_isTold 244 = .ok (.bipush (-71), 2) := by decide +kernel
theorem dL_isTold_246 : decode cL_isTold 246 = .ok (.if_icmp .ne 62, 3) := by decide +kernel
theorem dL_isTold_249 : decode cL_isTold 249 = .ok (.aload_n 0, 1) := by decide +kernel
theorem dL_isTold_250 : decode cL_isTold 250 = .ok (.ldc 67, 2) := by decide +kernel
theorem dL_isTold_252 : decode cL_isTold 252 = .ok (.invokestatic 141, 3) := by decide +kernel
theorem dL_isTold_255 : decode cL_isTold 255 = .ok (.bipush (-71), 2) := by decide +kernel
theorem dL_isTold_257 : decode cL_isTold 257 = .ok (.if_icmp .ne 51, 3) := by decide +kernel
theorem dL_isTold_260 : decode cL_isTold 260 = .ok (.aload_n 0, 1) := by decide +kernel
theorem dL_isTold_261 : decode cL_isTold 261 = .ok (.iconst 0, 1) := by decide +kernel
theorem dL_isTold_262 : decode cL_isTold 262 = .ok (.bipush 6, 2) := by decide +kernel
theorem dL_isTold_264 : decode cL_isTold 264 = .ok (.invokestatic 155, 3) := by decide +kernel
theorem dL_isTold_267 : decode cL_isTold 267 = .ok (.bipush (-71), 2) := by decide +kernel
theorem dL_isTold_269 : decode cL_isTold 269 = .ok (.if_icmp .ne 39, 3) := by decide +kernel
theorem dL_isTold_272 : decode cL_isTold 272 = .ok (.aload_n 0, 1) := by decide +kernel
theorem dL_isTold_273 : decode cL_isTold 273 = .ok (.iconst 2, 1) := by decide +kernel
theorem dL_isTold_274 : decode cL_isTold 274 = .ok (.iconst 0, 1) := by decide +kernel
theorem dL_isTold_275 : decode cL_isTold 275 = .ok (.invokestatic 155, 3) := by decide +kernel
theorem dL_isTold_278 : decode cL_isTold 278 = .ok (.bipush (-71), 2) := by decide +kernel
theorem dL_isTold_280 : decode cL_isTold 280 = .ok (.if_icmp .ne 28, 3) := by decide +kernel
theorem dL_isTold_283 : decode cL_isTold 283 = .ok (.aload_n 0, 1) := by decide +kernel
theorem dL_isTold_284 : decode cL_isTold 284 = .ok (.iconst 0, 1) := by decide +kernel
theorem dL_isTold_285 : decode cL_isTold 285 = .ok (.iconst (-1), 1) := by decide +kernel
theorem dL_isTold_286 : decode cL_isTold 286 = .ok (.invokestatic 155, 3) := by decide +kernel
theorem dL_isTold_289 : decode cL_isTold 289 = .ok (.bipush (-71), 2) := by decide +kernel
theorem dL_isTold_291 : decode cL_isTold 291 = .ok (.if_icmp .ne 17, 3) := by decide +kernel
theorem dL_isTold_294 : decode cL_isTold 294 = .ok (.aload_n 0, 1) := by decide +kernel
theorem dL_isTold_295 : decode cL_isTold 295 = .ok (.iconst (-1), 1) := by decide +kernel
theorem dL_isTold_296 : decode cL_isTold 296 = .ok (.invokestatic 150, 3) := by decide +kernel
theorem dL_isTold_299 : decode cL_isTold 299 = .ok (.bipush (-71), 2) := by decide +kernel
theorem dL_isTold_301 : decode cL_isTold 301 = .ok (.if_icmp .ne 7, 3) := by decide +kernel
theorem dL_isTold_304 : decode cL_isTold 304 = .ok (.iconst 1, 1) := by decide +kernel
theorem dL_isTold_305 : decode cL_isTold 305 = .ok (.goto 4, 3) := by decide +kernel
theorem dL_isTold_308 : decode cL_isTold 308 = .ok (.iconst 0, 1) := by decide +kernel
theorem dL_isTold_309 : decode cL_isTold 309 = .ok (.ireturn, 1) := by decide +kernel
theorem dL_law_0 : decode cL_law 0 = .ok (.new 9, 3) := by decide +kernel
theorem dL_law_3 : decode cL_law 3 = .ok (.dup, 1) := by decide +kernel
theorem dL_law_4 : decode cL_law 4 = .ok (.invokespecial 167, 3) := by decide +kernel
theorem dL_law_7 : decode cL_law 7 = .ok (.astore_n 1, 1) := by decide +kernel
theorem dL_law_8 : decode cL_law 8 = .ok (.bipush 64, 2) := by decide +kernel
theorem dL_law_10 : decode cL_law 10 = .ok (.newarray .long, 2) := by decide +kernel
theorem dL_law_12 : decode cL_law 12 = .ok (.astore_n 2, 1) := by decide +kernel
theorem dL_law_13 : decode cL_law 13 = .ok (.bipush 64, 2) := by decide +kernel
theorem dL_law_15 : decode cL_law 15 = .ok (.newarray .long, 2) := by decide +kernel
theorem dL_law_17 : decode cL_law 17 = .ok (.astore_n 3, 1) := by decide +kernel
theorem dL_law_18 : decode cL_law 18 = .ok (.bipush 12, 2) := by decide +kernel
theorem dL_law_20 : decode cL_law 20 = .ok (.newarray .int, 2) := by decide +kernel
theorem dL_law_22 : decode cL_law 22 = .ok (.astore 4, 2) := by decide +kernel
theorem dL_law_24 : decode cL_law 24 = .ok (.bipush 12, 2) := by decide +kernel
theorem dL_law_26 : decode cL_law 26 = .ok (.newarray .int, 2) := by decide +kernel
theorem dL_law_28 : decode cL_law 28 = .ok (.astore 5, 2) := by decide +kernel
theorem dL_law_30 : decode cL_law 30 = .ok (.bipush 12, 2) := by decide +kernel
theorem dL_law_32 : decode cL_law 32 = .ok (.newarray .int, 2) := by decide +kernel
theorem dL_law_34 : decode cL_law 34 = .ok (.astore 6, 2) := by decide +kernel
theorem dL_law_36 : decode cL_law 36 = .ok (.bipush 16, 2) := by decide +kernel
theorem dL_law_38 : decode cL_law 38 = .ok (.newarray .int, 2) := by decide +kernel
theorem dL_law_40 : decode cL_law 40 = .ok (.astore 7, 2) := by decide +kernel
theorem dL_law_42 : decode cL_law 42 = .ok (.bipush 64, 2) := by decide +kernel
theorem dL_law_44 : decode cL_law 44 = .ok (.newarray .int, 2) := by decide +kernel
theorem dL_law_46 : decode cL_law 46 = .ok (.astore 8, 2) := by decide +kernel
theorem dL_law_48 : decode cL_law 48 = .ok (.iconst 1, 1) := by decide +kernel
theorem dL_law_49 : decode cL_law 49 = .ok (.newarray .long, 2) := by decide +kernel
theorem dL_law_51 : decode cL_law 51 = .ok (.astore 9, 2) := by decide +kernel
theorem dL_law_53 : decode cL_law 53 = .ok (.bipush 60, 2) := by decide +kernel
theorem dL_law_55 : decode cL_law 55 = .ok (.newarray .int, 2) := by decide +kernel
theorem dL_law_57 : decode cL_law 57 = .ok (.astore 10, 2) := by decide +kernel
theorem dL_law_59 : decode cL_law 59 = .ok (.bipush 10, 2) := by decide +kernel
theorem dL_law_61 : decode cL_law 61 = .ok (.newarray .int, 2) := by decide +kernel
theorem dL_law_63 : decode cL_law 63 = .ok (.astore 11, 2) := by decide +kernel
theorem dL_law_65 : decode cL_law 65 = .ok (.iconst 0, 1) := by decide +kernel
theorem dL_law_66 : decode cL_law 66 = .ok (.istore 12, 2) := by decide +kernel
theorem dL_law_68 : decode cL_law 68 = .ok (.iload 12, 2) := by decide +kernel
theorem dL_law_70 : decode cL_law 70 = .ok (.bipush 12, 2) := by decide +kernel
theorem dL_law_72 : decode cL_law 72 = .ok (.if_icmp .ge 21, 3) := by decide +kernel
theorem dL_law_75 : decode cL_law 75 = .ok (.aload 4, 2) := by decide +kernel
theorem dL_law_77 : decode cL_law 77 = .ok (.iload 12, 2) := by decide +kernel
theorem dL_law_79 : decode cL_law 79 = .ok (.iconst (-1), 1) := by decide +kernel
theorem dL_law_80 : decode cL_law 80 = .ok (.iastore, 1) := by decide +kernel
theorem dL_law_81 : decode cL_law 81 = .ok (.aload 6, 2) := by decide +kernel
theorem dL_law_83 : decode cL_law 83 = .ok (.iload 12, 2) := by decide +kernel
theorem dL_law_85 : decode cL_law 85 = .ok (.iconst (-1), 1) := by decide +kernel
theorem dL_law_86 : decode cL_law 86 = .ok (.iastore, 1) := by decide +kernel
theorem dL_law_87 : decode cL_law 87 = .ok (.iinc 12 1, 3) := by decide +kernel
theorem dL_law_90 : decode cL_law 90 = .ok (.goto (-22), 3) := by decide +kernel
theorem dL_law_93 : decode cL_law 93 = .ok (.aload 7, 2) := by decide +kernel
theorem dL_law_95 : decode cL_law 95 = .ok (.iconst 1, 1) := by decide +kernel
theorem dL_law_96 : decode cL_law 96 = .ok (.iconst (-1), 1) := by decide +kernel
theorem dL_law_97 : decode cL_law 97 = .ok (.iastore, 1) := by decide +kernel
theorem dL_law_98 : decode cL_law 98 = .ok (.aload 7, 2) := by decide +kernel
theorem dL_law_100 : decode cL_law 100 = .ok (.bipush 9, 2) := by decide +kernel
theorem dL_law_102 : decode cL_law 102 = .ok (.iconst (-1), 1) := by decide +kernel
theorem dL_law_103 : decode cL_law 103 = .ok (.iastore, 1) := by decide +kernel
theorem dL_law_104 : decode cL_law 104 = .ok (.aload 7, 2) := by decide +kernel
theorem dL_law_106 : decode cL_law 106 = .ok (.bipush 14, 2) := by decide +kernel
theorem dL_law_108 : decode cL_law 108 = .ok (.iconst 1, 1) := by decide +kernel
theorem dL_law_109 : decode cL_law 109 = .ok (.iastore, 1) := by decide +kernel
theorem dL_law_110 : decode cL_law 110 = .ok (.iconst 3, 1) := by decide +kernel
theorem dL_law_111 : decode cL_law 111 = .ok (.istore 12, 2) := by decide +kernel
theorem dL_law_113 : decode cL_law 113 = .ok (.iload 12, 2) := by decide +kernel
theorem dL_law_115 : decode cL_law 115 = .ok (.bipush 6, 2) := by decide +kernel
theorem dL_law_117 : decode cL_law 117 = .ok (.if_icmp .ge 15, 3) := by decide +kernel
theorem dL_law_120 : decode cL_law 120 = .ok (.aload 11, 2) := by decide +kernel
theorem dL_law_122 : decode cL_law 122 = .ok (.iload 12, 2) := by decide +kernel
theorem dL_law_124 : decode cL_law 124 = .ok (.iconst (-1), 1) := by decide +kernel
theorem dL_law_125 : decode cL_law 125 = .ok (.iastore, 1) := by decide +kernel
theorem dL_law_126 : decode cL_law 126 = .ok (.iinc 12 1, 3) := by decide +kernel
theorem dL_law_129 : decode cL_law 129 = .ok (.goto (-16), 3) := by decide +kernel
theorem dL_law_132 : decode cL_law 132 = .ok (.aload_n 1, 1) := by decide +kernel
theorem dL_law_133 : decode cL_law 133 = .ok (.aload 6, 2) := by decide +kernel
theorem dL_law_135 : decode cL_law 135 = .ok (.aload 7, 2) := by decide +kernel
theorem dL_law_137 : decode cL_law 137 = .ok (.aload 10, 2) := by decide +kernel
theorem dL_law_139 : decode cL_law 139 = .ok (.aload 11, 2) := by decide +kernel
theorem dL_law_141 : decode cL_law 141 = .ok (.invokestatic 168, 3) := by decide +kernel
theorem dL_law_144 : decode cL_law 144 = .ok (.ifCond .ne 5, 3) := by decide +kernel
theorem dL_law_147 : decode cL_law 147 = .ok (.iconst 0, 1) := by decide +kernel
theorem dL_law_148 : decode cL_law 148 = .ok (.ireturn, 1) := by decide +kernel
theorem dL_law_149 : decode cL_law 149 = .ok (.iconst 0, 1) := by decide +kernel
theorem dL_law_150 : decode cL_law 150 = .ok (.istore 12, 2) := by decide +kernel
theorem dL_law_152 : decode cL_law 152 = .ok (.iload 12, 2) := by decide +kernel
theorem dL_law_154 : decode cL_law 154 = .ok (.sipush 150, 3) := by decide +kernel
theorem dL_law_157 : decode cL_law 157 = .ok (.if_icmp .ge 201, 3) := by decide +kernel
theorem dL_law_160 : decode cL_law 160 = .ok (.aload_n 0, 1) := by decide +kernel
theorem dL_law_161 : decode cL_law 161 = .ok (.iconst 3, 1) := by decide +kernel
theorem dL_law_162 : decode cL_law 162 = .ok (.iload 12, 2) := by decide +kernel
theorem dL_law_164 : decode cL_law 164 = .ok (.imul, 1) := by decide +kernel
theorem dL_law_165 : decode cL_law 165 = .ok (.invokestatic 172, 3) := by decide +kernel
theorem dL_law_168 : decode cL_law 168 = .ok (.istore 13, 2) := by decide +kernel
theorem dL_law_170 : decode cL_law 170 = .ok (.aload_n 0, 1) := by decide +kernel
theorem dL_law_171 : decode cL_law 171 = .ok (.iconst 3, 1) := by decide +kernel
theorem dL_law_172 : decode cL_law 172 = .ok (.iload 12, 2) := by decide +kernel
theorem dL_law_174 : decode cL_law 174 = .ok (.imul, 1) := by decide +kernel
theorem dL_law_175 : decode cL_law 175 = .ok (.iconst 1, 1) := by decide +kernel
theorem dL_law_176 : decode cL_law 176 = .ok (.iadd, 1) := by decide +kernel
theorem dL_law_177 : decode cL_law 177 = .ok (.invokestatic 172, 3) := by decide +kernel
theorem dL_law_180 : decode cL_law 180 = .ok (.istore 14, 2) := by decide +kernel
theorem dL_law_182 : decode cL_law 182 = .ok (.aload_n 0, 1) := by decide +kernel
theorem dL_law_183 : decode cL_law 183 = .ok (.iconst 3, 1) := by decide +kernel
theorem dL_law_184 : decode cL_law 184 = .ok (.iload 12, 2) := by decide +kernel
theorem dL_law_186 : decode cL_law 186 = .ok (.imul, 1) := by decide +kernel
theorem dL_law_187 : decode cL_law 187 = .ok (.iconst 2, 1) := by decide +kernel
theorem dL_law_188 : decode cL_law 188 = .ok (.iadd, 1) := by decide +kernel
theorem dL_law_189 : decode cL_law 189 = .ok (.invokestatic 172, 3) := by decide +kernel
theorem dL_law_192 : decode cL_law 192 = .ok (.istore 15, 2) := by decide +kernel
theorem dL_law_194 : decode cL_law 194 = .ok (.iload 12, 2) := by decide +kernel
theorem dL_law_196 : decode cL_law 196 = .ok (.bipush 8, 2) := by decide +kernel
theorem dL_law_198 : decode cL_law 198 = .ok (.if_icmp .ge 12, 3) := by decide +kernel
theorem dL_law_201 : decode cL_law 201 = .ok (.iload 12, 2) := by decide +kernel
theorem dL_law_203 : decode cL_law 203 = .ok (.iconst 2, 1) := by decide +kernel
theorem dL_law_204 : decode cL_law 204 = .ok (.irem, 1) := by decide +kernel
theorem dL_law_205 : decode cL_law 205 = .ok (.iconst 4, 1) := by decide +kernel
theorem dL_law_206 : decode cL_law 206 = .ok (.imul, 1) := by decide +kernel
theorem dL_law_207 : decode cL_law 207 = .ok (.goto 10, 3) := by decide +kernel
theorem dL_law_210 : decode cL_law 210 = .ok (.iload 13, 2) := by decide +kernel
theorem dL_law_212 : decode cL_law 212 = .ok (.bipush 32, 2) := by decide +kernel
theorem dL_law_214 : decode cL_law 214 = .ok (.invokestatic 94, 3) := by decide +kernel
theorem dL_law_217 : decode cL_law 217 = .ok (.istore 16, 2) := by decide +kernel
theorem dL_law_219 : decode cL_law 219 = .ok (.aload 7, 2) := by decide +kernel
theorem dL_law_221 : decode cL_law 221 = .ok (.bipush 7, 2) := by decide +kernel
theorem dL_law_223 : decode cL_law 223 = .ok (.iaload, 1) := by decide +kernel
theorem dL_law_224 : decode cL_law 224 = .ok (.bipush 40, 2) := by decide +kernel
theorem dL_law_226 : decode cL_law 226 = .ok (.if_icmp .gt 13, 3) := by decide +kernel
theorem dL_law_229 : decode cL_law 229 = .ok (.aload 7, 2) := by decide +kernel
theorem dL_law_231 : decode cL_law 231 = .ok (.bipush 15, 2) := by decide +kernel
theorem dL_law_233 : decode cL_law 233 = .ok (.iaload, 1) := by decide +kernel
theorem dL_law_234 : decode cL_law 234 = .ok (.bipush 40, 2) := by decide +kernel
theorem dL_law_236 : decode cL_law 236 = .ok (.if_icmp .le 24, 3) := by decide +kernel
theorem dL_law_239 : decode cL_law 239 = .ok (.bipush 22, 2) := by decide +kernel
theorem dL_law_241 : decode cL_law 241 = .ok (.istore 16, 2) := by decide +kernel
theorem dL_law_243 : decode cL_law 243 = .ok (.aload 7, 2) := by decide +kernel
theorem dL_law_245 : decode cL_law 245 = .ok (.bipush 7, 2) := by decide +kernel
theorem dL_law_247 : decode cL_law 247 = .ok (.iaload, 1) := by decide +kernel
theorem dL_law_248 : decode cL_law 248 = .ok (.bipush 40, 2) := by decide +kernel
theorem dL_law_250 : decode cL_law 250 = .ok (.if_icmp .le 7, 3) := by decide +kernel
theorem dL_law_253 : decode cL_law 253 = .ok (.iconst 0, 1) := by decide +kernel
theorem dL_law_254 : decode cL_law 254 = .ok (.goto 4, 3) := by decide +kernel
theorem dL_law_257 : decode cL_law 257 = .ok (.iconst 1, 1) := by decide +kernel
theorem dL_law_258 : decode cL_law 258 = .ok (.istore 14, 2) := by decide +kernel
theorem dL_law_260 : decode cL_law 260 = .ok (.iload 16, 2) := by decide +kernel
theorem dL_law_262 : decode cL_law 262 = .ok (.bipush 24, 2) := by decide +kernel
theorem dL_law_264 : decode cL_law 264 = .ok (.if_icmp .ge 29, 3) := by decide +kernel
theorem dL_law_267 : decode cL_law 267 = .ok (.aload_n 1, 1) := by decide +kernel
theorem dL_law_268 : decode cL_law 268 = .ok (.iload 16, 2) := by decide +kernel
theorem dL_law_270 : decode cL_law 270 = .ok (.iload 14, 2) := by decide +kernel
theorem dL_law_272 : decode cL_law 272 = .ok (.iload 15, 2) := by decide +kernel
theorem dL_law_274 : decode cL_law 274 = .ok (.aload_n 2, 1) := by decide +kernel
theorem dL_law_275 : decode cL_law 275 = .ok (.aload_n 3, 1) := by decide +kernel
theorem dL_law_276 : decode cL_law 276 = .ok (.aload 4, 2) := by decide +kernel
theorem dL_law_278 : decode cL_law 278 = .ok (.aload 5, 2) := by decide +kernel
theorem dL_law_280 : decode cL_law 280 = .ok (.aload 6, 2) := by decide +kernel
theorem dL_law_282 : decode cL_law 282 = .ok (.aload 7, 2) := by decide +kernel
theorem dL_law_284 : decode cL_law 284 = .ok (.invokestatic 176, 3) := by decide +kernel
theorem dL_law_287 : decode cL_law 287 = .ok (.ifCond .eq 63, 3) := by decide +kernel
theorem dL_law_290 : decode cL_law 290 = .ok (.goto 45, 3) := by decide +kernel
theorem dL_law_293 : decode cL_law 293 = .ok (.aload_n 1, 1) := by decide +kernel
theorem dL_law_294 : decode cL_law 294 = .ok (.iload 16, 2) := by decide +kernel
theorem dL_law_296 : decode cL_law 296 = .ok (.bipush 26, 2) := by decide +kernel
theorem dL_law_298 : decode cL_law 298 = .ok (.if_icmp .ge 7, 3) := by decide +kernel
theorem dL_law_301 : decode cL_law 301 = .ok (.iconst 0, 1) := by decide +kernel
theorem dL_law_302 : decode cL_law 302 = .ok (.goto 15, 3) := by decide +kernel
theorem dL_law_305 : decode cL_law 305 = .ok (.iload 16, 2) := by decide +kernel
theorem dL_law_307 : decode cL_law 307 = .ok (.bipush 26, 2) := by decide +kernel
theorem dL_law_309 : decode cL_law 309 = .ok (.if_icmp .ne 7, 3) := by decide +kernel
theorem dL_law_312 : decode cL_law 312 = .ok (.iconst 2, 1) := by decide +kernel
theorem dL_law_313 : decode cL_law 313 = .ok (.goto 4, 3) := by decide +kernel
theorem dL_law_316 : decode cL_law 316 = .ok (.iconst 3, 1) := by decide +kernel
theorem dL_law_317 : decode cL_law 317 = .ok (.iload 14, 2) := by decide +kernel
theorem dL_law_319 : decode cL_law 319 = .ok (.iload 15, 2) := by decide +kernel
theorem dL_law_321 : decode cL_law 321 = .ok (.aload 8, 2) := by decide +kernel
theorem dL_law_323 : decode cL_law 323 = .ok (.aload 9, 2) := by decide +kernel
theorem dL_law_325 : decode cL_law 325 = .ok (.aload 10, 2) := by decide +kernel
theorem dL_law_327 : decode cL_law 327 = .ok (.aload 11, 2) := by decide +kernel
theorem dL_law_329 : decode cL_law 329 = .ok (.invokestatic 180, 3) := by decide +kernel
theorem dL_law_332 : decode cL_law 332 = .ok (.ifCond .eq 18, 3) := by decide +kernel
theorem dL_law_335 : decode cL_law 335 = .ok (.aload_n 1, 1) := by decide +kernel
theorem dL_law_336 : decode cL_law 336 = .ok (.aload 6, 2) := by decide +kernel
theorem dL_law_338 : decode cL_law 338 = .ok (.aload 7, 2) := by decide +kernel
theorem dL_law_340 : decode cL_law 340 = .ok (.aload 10, 2) := by decide +kernel
theorem dL_law_342 : decode cL_law 342 = .ok (.aload 11, 2) := by decide +kernel
theorem dL_law_344 : decode cL_law 344 = .ok (.invokestatic 168, 3) := by decide +kernel
theorem dL_law_347 : decode cL_law 347 = .ok (.ifCond .ne 5, 3) := by decide +kernel
theorem dL_law_350 : decode cL_law 350 = .ok (.iconst 0, 1) := by decide +kernel
theorem dL_law_351 : decode cL_law 351 = .ok (.ireturn, 1) := by decide +kernel
theorem dL_law_352 : decode cL_law 352 = .ok (.iinc 12 1, 3) := by decide +kernel
theorem dL_law_355 : decode cL_law 355 = .ok (.goto (-203), 3) := by decide +kernel
theorem dL_law_358 : decode cL_law 358 = .ok (.iconst 1, 1) := by decide +kernel
theorem dL_law_359 : decode cL_law 359 = .ok (.ireturn, 1) := by decide +kernel
