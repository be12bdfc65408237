theorem dX5_init_0 : decode cX5_init 0 = .ok (.aload_n 0, 1) := by decide +kernel
theorem dX5_init_1 : decode cX5_init 1 = .ok (.invokespecial 1, 3) := by decide +kernel
theorem dX5_init_4 : decode cX5_init 4 = .ok (.aload_n 0, 1) := by decide +kernel
theorem dX5_init_5 : decode cX5_init 5 = .ok (.bipush 12, 2) := by decide +kernel
theorem dX5_init_7 : decode cX5_init 7 = .ok (.newarray .int, 2) := by decide +kernel
theorem dX5_init_9 : decode cX5_init 9 = .ok (.dup, 1) := by decide +kernel
theorem dX5_init_10 : decode cX5_init 10 = .ok (.iconst 0, 1) := by decide +kernel
theorem dX5_init_11 : decode cX5_init 11 = .ok (.iconst (-1), 1) := by decide +kernel
theorem dX5_init_12 : decode cX5_init 12 = .ok (.iastore, 1) := by decide +kernel
theorem dX5_init_13 : decode cX5_init 13 = .ok (.dup, 1) := by decide +kernel
theorem dX5_init_14 : decode cX5_init 14 = .ok (.iconst 1, 1) := by decide +kernel
theorem dX5_init_15 : decode cX5_init 15 = .ok (.iconst (-1), 1) := by decide +kernel
theorem dX5_init_16 : decode cX5_init 16 = .ok (.iastore, 1) := by decide +kernel
theorem dX5_init_17 : decode cX5_init 17 = .ok (.dup, 1) := by decide +kernel
theorem dX5_init_18 : decode cX5_init 18 = .ok (.iconst 2, 1) := by decide +kernel
theorem dX5_init_19 : decode cX5_init 19 = .ok (.iconst (-1), 1) := by decide +kernel
theorem dX5_init_20 : decode cX5_init 20 = .ok (.iastore, 1) := by decide +kernel
theorem dX5_init_21 : decode cX5_init 21 = .ok (.dup, 1) := by decide +kernel
theorem dX5_init_22 : decode cX5_init 22 = .ok (.iconst 3, 1) := by decide +kernel
theorem dX5_init_23 : decode cX5_init 23 = .ok (.iconst (-1), 1) := by decide +kernel
theorem dX5_init_24 : decode cX5_init 24 = .ok (.iastore, 1) := by decide +kernel
theorem dX5_init_25 : decode cX5_init 25 = .ok (.dup, 1) := by decide +kernel
theorem dX5_init_26 : decode cX5_init 26 = .ok (.iconst 4, 1) := by decide +kernel
theorem dX5_init_27 : decode cX5_init 27 = .ok (.iconst (-1), 1) := by decide +kernel
theorem dX5_init_28 : decode cX5_init 28 = .ok (.iastore, 1) := by decide +kernel
theorem dX5_init_29 : decode cX5_init 29 = .ok (.dup, 1) := by decide +kernel
theorem dX5_init_30 : decode cX5_init 30 = .ok (.iconst 5, 1) := by decide +kernel
theorem dX5_init_31 : decode cX5_init 31 = .ok (.iconst (-1), 1) := by decide +kernel
theorem dX5_init_32 : decode cX5_init 32 = .ok (.iastore, 1) := by decide +kernel
theorem dX5_init_33 : decode cX5_init 33 = .ok (.dup, 1) := by decide +kernel
theorem dX5_init_34 : decode cX5_init 34 = .ok (.bipush 6, 2) := by decide +kernel
theorem dX5_init_36 : decode cX5_init 36 = .ok (.iconst (-1), 1) := by decide +kernel
theorem dX5_init_37 : decode cX5_init 37 = .ok (.iastore, 1) := by decide +kernel
theorem dX5_init_38 : decode cX5_init 38 = .ok (.dup, 1) := by decide +kernel
theorem dX5_init_39 : decode cX5_init 39 = .ok (.bipush 7, 2) := by decide +kernel
theorem dX5_init_41 : decode cX5_init 41 = .ok (.iconst (-1), 1) := by decide +kernel
theorem dX5_init_42 : decode cX5_init 42 = .ok (.iastore, 1) := by decide +kernel
theorem dX5_init_43 : decode cX5_init 43 = .ok (.dup, 1) := by decide +kernel
theorem dX5_init_44 : decode cX5_init 44 = .ok (.bipush 8, 2) := by decide +kernel
theorem dX5_init_46 : decode cX5_init 46 = .ok (.iconst (-1), 1) := by decide +kernel
theorem dX5_init_47 : decode cX5_init 47 = .ok (.iastore, 1) := by decide +kernel
theorem dX5_init_48 : decode cX5_init 48 = .ok (.dup, 1) := by decide +kernel
theorem dX5_init_49 : decode cX5_init 49 = .ok (.bipush 9, 2) := by decide +kernel
theorem dX5_init_51 : decode cX5_init 51 = .ok (.iconst (-1), 1) := by decide +kernel
theorem dX5_init_52 : decode cX5_init 52 = .ok (.iastore, 1) := by decide +kernel
theorem dX5_init_53 : decode cX5_init 53 = .ok (.dup, 1) := by decide +kernel
theorem dX5_init_54 : decode cX5_init 54 = .ok (.bipush 10, 2) := by decide +kernel
theorem dX5_init_56 : decode cX5_init 56 = .ok (.iconst (-1), 1) := by decide +kernel
theorem dX5_init_57 : decode cX5_init 57 = .ok (.iastore, 1) := by decide +kernel
theorem dX5_init_58 : decode cX5_init 58 = .ok (.dup, 1) := by decide +kernel
theorem dX5_init_59 : decode cX5_init 59 = .ok (.bipush 11, 2) := by decide +kernel
theorem dX5_init_61 : decode cX5_init 61 = .ok (.iconst (-1), 1) := by decide +kernel
theorem dX5_init_62 : decode cX5_init 62 = .ok (.iastore, 1) := by decide +kernel
theorem dX5_init_63 : decode cX5_init 63 = .ok (.putfield 9, 3) := by decide +kernel
theorem dX5_init_66 : decode cX5_init 66 = .ok (.aload_n 0, 1) := by decide +kernel
theorem dX5_init_67 : decode cX5_init 67 = .ok (.bipush 12, 2) := by decide +kernel
theorem dX5_init_69 : decode cX5_init 69 = .ok (.newarray .int, 2) := by decide +kernel
theorem dX5_init_71 : decode cX5_init 71 = .ok (.putfield 13, 3) := by decide +kernel
theorem dX5_init_74 : decode cX5_init 74 = .ok (.aload_n 0, 1) := by decide +kernel
theorem dX5_init_75 : decode cX5_init 75 = .ok (.bipush 12, 2) := by decide +kernel
theorem dX5_init_77 : decode cX5_init 77 = .ok (.newarray .int, 2) := by decide +kernel
theorem dX5_init_79 : decode cX5_init 79 = .ok (.dup, 1) := by decide +kernel
theorem dX5_init_80 : decode cX5_init 80 = .ok (.iconst 0, 1) := by decide +kernel
theorem dX5_init_81 : decode cX5_init 81 = .ok (.iconst (-1), 1) := by decide +kernel
theorem dX5_init_82 : decode cX5_init 82 = .ok (.iastore, 1) := by decide +kernel
theorem dX5_init_83 : decode cX5_init 83 = .ok (.dup, 1) := by decide +kernel
theorem dX5_init_84 : decode cX5_init 84 = .ok (.iconst 1, 1) := by decide +kernel
theorem dX5_init_85 : decode cX5_init 85 = .ok (.iconst (-1), 1) := by decide +kernel
theorem dX5_init_86 : decode cX5_init 86 = .ok (.iastore, 1) := by decide +kernel
theorem dX5_init_87 : decode cX5_init 87 = .ok (.dup, 1) := by decide +kernel
theorem dX5_init_88 : decode cX5_init 88 = .ok (.iconst 2, 1) := by decide +kernel
theorem dX5_init_89 : decode cX5_init 89 = .ok (.iconst (-1), 1) := by decide +kernel
theorem dX5_init_90 : decode cX5_init 90 = .ok (.iastore, 1) := by decide +kernel
theorem dX5_init_91 : decode cX5_init 91 = .ok (.dup, 1) := by decide +kernel
theorem dX5_init_92 : decode cX5_init 92 = .ok (.iconst 3, 1) := by decide +kernel
theorem dX5_init_93 : decode cX5_init 93 = .ok (.iconst (-1), 1) := by decide +kernel
theorem dX5_init_94 : decode cX5_init 94 = .ok (.iastore, 1) := by decide +kernel
theorem dX5_init_95 : decode cX5_init 95 = .ok (.dup, 1) := by decide +kernel
theorem dX5_init_96 : decode cX5_init 96 = .ok (.iconst 4, 1) := by decide +kernel
theorem dX5_init_97 : decode cX5_init 97 = .ok (.iconst (-1), 1) := by decide +kernel
theorem dX5_init_98 : decode cX5_init 98 = .ok (.iastore, 1) := by decide +kernel
theorem dX5_init_99 : decode cX5_init 99 = .ok (.dup, 1) := by decide +kernel
theorem dX5_init_100 : decode cX5_init 100 = .ok (.iconst 5, 1) := by decide +kernel
theorem dX5_init_101 : decode cX5_init 101 = .ok (.iconst (-1), 1) := by decide +kernel
theorem dX5_init_102 : decode cX5_init 102 = .ok (.iastore, 1) := by decide +kernel
theorem dX5_init_103 : decode cX5_init 103 = .ok (.dup, 1) := by decide +kernel
theorem dX5_init_104 : decode cX5_init 104 = .ok (.bipush 6, 2) := by decide +kernel
theorem dX5_init_106 : decode cX5_init 106 = .ok (.iconst (-1), 1) := by decide +kernel
theorem dX5_init_107 : decode cX5_init 107 = .ok (.iastore, 1) := by decide +kernel
theorem dX5_init_108 : decode cX5_init 108 = .ok (.dup, 1) := by decide +kernel
theorem dX5_init_109 : decode cX5_init 109 = .ok (.bipush 7, 2) := by decide +kernel
theorem dX5_init_111 : decode cX5_init 111 = .ok (.iconst (-1), 1) := by decide +kernel
theorem dX5_init_112 : decode cX5_init 112 = .ok (.iastore, 1) := by decide +kernel
theorem dX5_init_113 : decode cX5_init 113 = .ok (.dup, 1) := by decide +kernel
theorem dX5_init_114 : decode cX5_init 114 = .ok (.bipush 8, 2) := by decide +kernel
theorem dX5_init_116 : decode cX5_init 116 = .ok (.iconst (-1), 1) := by decide +kernel
theorem dX5_init_117 : decode cX5_init 117 = .ok (.iastore, 1) := by decide +kernel
theorem dX5_init_118 : decode cX5_init 118 = .ok (.dup, 1) := by decide +kernel
theorem dX5_init_119 : decode cX5_init 119 = .ok (.bipush 9, 2) := by decide +kernel
theorem dX5_init_121 : decode cX5_init 121 = .ok (.iconst (-1), 1) := by decide +kernel
theorem dX5_init_122 : decode cX5_init 122 = .ok (.iastore, 1) := by decide +kernel
theorem dX5_init_123 : decode cX5_init 123 = .ok (.dup, 1) := by decide +kernel
theorem dX5_init_124 : decode cX5_init 124 = .ok (.bipush 10, 2) := by decide +kernel
theorem dX5_init_126 : decode cX5_init 126 = .ok (.iconst (-1), 1) := by decide +kernel
theorem dX5_init_127 : decode cX5_init 127 = .ok (.iastore, 1) := by decide +kernel
theorem dX5_init_128 : decode cX5_init 128 = .ok (.dup, 1) := by decide +kernel
theorem dX5_init_129 : decode cX5_init 129 = .ok (.bipush 11, 2) := by decide +kernel
theorem dX5_init_131 : decode cX5_init 131 = .ok (.iconst (-1), 1) := by decide +kernel
theorem dX5_init_132 : decode cX5_init 132 = .ok (.iastore, 1) := by decide +kernel
theorem dX5_init_133 : decode cX5_init 133 = .ok (.putfield 16, 3) := by decide +kernel
theorem dX5_init_136 : decode cX5_init 136 = .ok (.aload_n 0, 1) := by decide +kernel
theorem dX5_init_137 : decode cX5_init 137 = .ok (.iconst 2, 1) := by decide +kernel
theorem dX5_init_138 : decode cX5_init 138 = .ok (.newarray .int, 2) := by decide +kernel
theorem dX5_init_140 : decode cX5_init 140 = .ok (.dup, 1) := by decide +kernel
theorem dX5_init_141 : decode cX5_init 141 = .ok (.iconst 0, 1) := by decide +kernel
theorem dX5_init_142 : decode cX5_init 142 = .ok (.iconst 1, 1) := by decide +kernel
theorem dX5_init_143 : decode cX5_init 143 = .ok (.iastore, 1) := by decide +kernel
theorem dX5_init_144 : decode cX5_init 144 = .ok (.dup, 1) := by decide +kernel
theorem dX5_init_145 : decode cX5_init 145 = .ok (.iconst 1, 1) := by decide +kernel
theorem dX5_init_146 : decode cX5_init 146 = .ok (.iconst 2, 1) := by decide +kernel
theorem dX5_init_147 : decode cX5_init 147 = .ok (.iastore, 1) := by decide +kernel
theorem dX5_init_148 : decode cX5_init 148 = .ok (.putfield 19, 3) := by decide +kernel
theorem dX5_init_151 : decode cX5_init 151 = .ok (.aload_n 0, 1) := by decide +kernel
theorem dX5_init_152 : decode cX5_init 152 = .ok (.iconst 2, 1) := by decide +kernel
theorem dX5_init_153 : decode cX5_init 153 = .ok (.newarray .int, 2) := by decide +kernel
theorem dX5_init_155 : decode cX5_init 155 = .ok (.putfield 22, 3) := by decide +kernel
theorem dX5_init_158 : decode cX5_init 158 = .ok (.aload_n 0, 1) := by decide +kernel
theorem dX5_init_159 : decode cX5_init 159 = .ok (.iconst 2, 1) := by decide +kernel
theorem dX5_init_160 : decode cX5_init 160 = .ok (.newarray .int, 2) := by decide +kernel
theorem dX5_init_162 : decode cX5_init 162 = .ok (.dup, 1) := by decide +kernel
theorem dX5_init_163 : decode cX5_init 163 = .ok (.iconst 0, 1) := by decide +kernel
theorem dX5_init_164 : decode cX5_init 164 = .ok (.iconst (-1), 1) := by decide +kernel
theorem dX5_init_165 : decode cX5_init 165 = .ok (.iastore, 1) := by decide +kernel
theorem dX5_init_166 : decode cX5_init 166 = .ok (.dup, 1) := by decide +kernel
theorem dX5_init_167 : decode cX5_init 167 = .ok (.iconst 1, 1) := by decide +kernel
theorem dX5_init_168 : decode cX5_init 168 = .ok (.iconst (-1), 1) := by decide +kernel
theorem dX5_init_169 : decode cX5_init 169 = .ok (.iastore, 1) := by decide +kernel
theorem dX5_init_170 : decode cX5_init 170 = .ok (.putfield 25, 3) := by decide +kernel
theorem dX5_init_173 : decode cX5_init 173 = .ok (.aload_n 0, 1) := by decide +kernel
theorem dX5_init_174 : decode cX5_init 174 = .ok (.iconst 2, 1) := by decide +kernel
theorem dX5_init_175 : decode cX5_init 175 = .ok (.newarray .int, 2) := by decide +kernel
theorem dX5_init_177 : decode cX5_init 177 = .ok (.putfield 28, 3) := by decide +kernel
theorem dX5_init_180 : decode cX5_init 180 = .ok (.aload_n 0, 1) := by decide +kernel
theorem dX5_init_181 : decode cX5_init 181 = .ok (.iconst 2, 1) := by decide +kernel
theorem dX5_init_182 : decode cX5_init 182 = .ok (.newarray .int, 2) := by decide +kernel
theorem dX5_init_184 : decode cX5_init 184 = .ok (.putfield 31, 3) := by decide +kernel
theorem dX5_init_187 : decode cX5_init 187 = .ok (.aload_n 0, 1) := by decide +kernel
theorem dX5_init_188 : decode cX5_init 188 = .ok (.iconst 2, 1) := by decide +kernel
theorem dX5_init_189 : decode cX5_init 189 = .ok (.newarray .boolean, 2) := by decide +kernel
theorem dX5_init_191 : decode cX5_init 191 = .ok (.putfield 34, 3) := by decide +kernel
theorem dX5_init_194 : decode cX5_init 194 = .ok (.aload_n 0, 1) := by decide +kernel
theorem dX5_init_195 : decode cX5_init 195 = .ok (.iconst 2, 1) := by decide +kernel
theorem dX5_init_196 : decode cX5_init 196 = .ok (.newarray .int, 2) := by decide +kernel
theorem dX5_init_198 : decode cX5_init 198 = .ok (.putfield 38, 3) := by decide +kernel
theorem dX5_init_201 : decode cX5_init 201 = .ok (.aload_n 0, 1) := by decide +kernel
theorem dX5_init_202 : decode cX5_init 202 = .ok (.iconst 2, 1) := by decide +kernel
theorem dX5_init_203 : decode cX5_init 203 = .ok (.newarray .int, 2) := by decide +kernel
theorem dX5_init_205 : decode cX5_init 205 = .ok (.putfield 41, 3) := by decide +kernel
theorem dX5_init_208 : decode cX5_init 208 = .ok (.aload_n 0, 1) := by decide +kernel
theorem dX5_init_209 : decode cX5_init 209 = .ok (.iconst 2, 1) := by decide +kernel
theorem dX5_init_210 : decode cX5_init 210 = .ok (.newarray .int, 2) := by decide +kernel
theorem dX5_init_212 : decode cX5_init 212 = .ok (.putfield 44, 3) := by decide +kernel
theorem dX5_init_215 : decode cX5_init 215 = .ok (.aload_n 0, 1) := by decide +kernel
theorem dX5_init_216 : decode cX5_init 216 = .ok (.sipush 2048, 3) := by decide +kernel
theorem dX5_init_219 : decode cX5_init 219 = .ok (.newarray .int, 2) := by decide +kernel
theorem dX5_init_221 : decode cX5_init 221 = .ok (.putfield 47, 3) := by decide +kernel
theorem dX5_init_224 : decode cX5_init 224 = .ok (.aload_n 0, 1) := by decide +kernel
theorem dX5_init_225 : decode cX5_init 225 = .ok (.sipush 2048, 3) := by decide +kernel
theorem dX5_init_228 : decode cX5_init 228 = .ok (.newarray .int, 2) := by decide +kernel
theorem dX5_init_230 : decode cX5_init 230 = .ok (.putfield 50, 3) := by decide +kernel
theorem dX5_init_233 : decode cX5_init 233 = .ok (.aload_n 0, 1) := by decide +kernel
theorem dX5_init_234 : decode cX5_init 234 = .ok (.sipush 2048, 3) := by decide +kernel
theorem dX5_init_237 : decode cX5_init 237 = .ok (.newarray .int, 2) := by decide +kernel
theorem dX5_init_239 : decode cX5_init 239 = .ok (.putfield 53, 3) := by decide +kernel
theorem dX5_init_242 : decode cX5_init 242 = .ok (.aload_n 0, 1) := by decide +kernel
theorem dX5_init_243 : decode cX5_init 243 = .ok (.sipush 2048, 3) := by decide +kernel
theorem dX5_init_246 : decode cX5_init 246 = .ok (.newarray .int, 2) := by decide +kernel
theorem dX5_init_248 : decode cX5_init 248 = .ok (.putfield 56, 3) := by decide +kernel
theorem dX5_init_251 : decode cX5_init 251 = .ok (.aload_n 0, 1) := by decide +kernel
theorem dX5_init_252 : decode cX5_init 252 = .ok (.bipush 61, 2) := by decide +kernel
theorem dX5_init_254 : decode cX5_init 254 = .ok (.newarray .int, 2) := by decide +kernel
theorem dX5_init_256 : decode cX5_init 256 = .ok (.putfield 59, 3) := by decide +kernel
theorem dX5_init_259 : decode cX5_init 259 = .ok (.aload_n 0, 1) := by decide +kernel
theorem dX5_init_260 : decode cX5_init 260 = .ok (.sipush 240, 3) := by decide +kernel
theorem dX5_init_263 : decode cX5_init 263 = .ok (.newarray .int, 2) := by decide +kernel
theorem dX5_init_265 : decode cX5_init 265 = .ok (.putfield 62, 3) := by decide +kernel
theorem dX5_init_268 : decode cX5_init 268 = .ok (.aload_n 0, 1) := by decide +kernel
theorem dX5_init_269 : decode cX5_init 269 = .ok (.sipush 240, 3) := by decide +kernel
theorem dX5_init_272 : decode cX5_init 272 = .ok (.newarray .boolean, 2) := by decide +kernel
theorem dX5_init_274 : decode cX5_init 274 = .ok (.putfield 65, 3) := by decide +kernel
theorem dX5_init_277 : decode cX5_init 277 = .ok (.aload_n 0, 1) := by decide +kernel
theorem dX5_init_278 : decode cX5_init 278 = .ok (.iconst 3, 1) := by decide +kernel
theorem dX5_init_279 : decode cX5_init 279 = .ok (.newarray .int, 2) := by decide +kernel
theorem dX5_init_281 : decode cX5_init 281 = .ok (.dup, 1) := by decide +kernel
theorem dX5_init_282 : decode cX5_init 282 = .ok (.iconst 0, 1) := by decide +kernel
theorem dX5_init_283 : decode cX5_init 283 = .ok (.iconst 0, 1) := by decide +kernel
theorem dX5_init_284 : decode cX5_init 284 = .ok (.iastore, 1) := by decide +kernel
theorem dX5_init_285 : decode cX5_init 285 = .ok (.dup, 1) := by decide +kernel
theorem dX5_init_286 : decode cX5_init 286 = .ok (.iconst 1, 1) := by decide +kernel
theorem dX5_init_287 : decode cX5_init 287 = .ok (.iconst 1, 1) := by decide +kernel
theorem dX5_init_288 : decode cX5_init 288 = .ok (.iastore, 1) := by decide +kernel
theorem dX5_init_289 : decode cX5_init 289 = .ok (.dup, 1) := by decide +kernel
theorem dX5_init_290 : decode cX5_init 290 = .ok (.iconst 2, 1) := by decide +kernel
theorem dX5_init_291 : decode cX5_init 291 = .ok (.iconst 2, 1) := by decide +kernel
theorem dX5_init_292 : decode cX5_init 292 = .ok (.iastore, 1) := by decide +kernel
theorem dX5_init_293 : decode cX5_init 293 = .ok (.putfield 68, 3) := by decide +kernel
theorem dX5_init_296 : decode cX5_init 296 = .ok (.aload_n 0, 1) := by decide +kernel
theorem dX5_init_297 : decode cX5_init 297 = .ok (.iconst 3, 1) := by decide +kernel
theorem dX5_init_298 : decode cX5_init 298 = .ok (.newarray .int, 2) := by decide +kernel
theorem dX5_init_300 : decode cX5_init 300 = .ok (.dup, 1) := by decide +kernel
theorem dX5_init_301 : decode cX5_init 301 = .ok (.iconst 0, 1) := by decide +kernel
theorem dX5_init_302 : decode cX5_init 302 = .ok (.iconst (-1), 1) := by decide +kernel
theorem dX5_init_303 : decode cX5_init 303 = .ok (.iastore, 1) := by decide +kernel
theorem dX5_init_304 : decode cX5_init 304 = .ok (.dup, 1) := by decide +kernel
theorem dX5_init_305 : decode cX5_init 305 = .ok (.iconst 1, 1) := by decide +kernel
theorem dX5_init_306 : decode cX5_init 306 = .ok (.iconst (-1), 1) := by decide +kernel
theorem dX5_init_307 : decode cX5_init 307 = .ok (.iastore, 1) := by decide +kernel
theorem dX5_init_308 : decode cX5_init 308 = .ok (.dup, 1) := by decide +kernel
theorem dX5_init_309 : decode cX5_init 309 = .ok (.iconst 2, 1) := by decide +kernel
theorem dX5_init_310 : decode cX5_init 310 = .ok (.iconst (-1), 1) := by decide +kernel
theorem dX5_init_311 : decode cX5_init 311 = .ok (.iastore, 1) := by decide +kernel
theorem dX5_init_312 : decode cX5_init 312 = .ok (.putfield 71, 3) := by decide +kernel
theorem dX5_init_315 : decode cX5_init 315 = .ok (.aload_n 0, 1) := by decide +kernel
theorem dX5_init_316 : decode cX5_init 316 = .ok (.bipush 60, 2) := by decide +kernel
theorem dX5_init_318 : decode cX5_init 318 = .ok (.newarray .int, 2) := by decide +kernel
theorem dX5_init_320 : decode cX5_init 320 = .ok (.putfield 74, 3) := by decide +kernel
theorem dX5_init_323 : decode cX5_init 323 = .ok (.return_, 1) := by decide +kernel
theorem dX5_in_0 : decode cX5_in 0 = .ok (.iload_n 0, 1) := by decide +kernel
theorem dX5_in_1 : decode cX5_in 1 = .ok (.iload_n 1, 1) := by decide +kernel
theorem dX5_in_2 : decode cX5_in 2 = .ok (.if_icmp .lt 12, 3) := by decide +kernel
theorem dX5_in_5 : decode cX5_in 5 = .ok (.iload_n 0, 1) := by decide +kernel
theorem dX5_in_6 : decode cX5_in 6 = .ok (.iload_n 2, 1) := by decide +kernel
theorem dX5_in_7 : decode cX5_in 7 = .ok (.if_icmp .gt 7, 3) := by decide +kernel
theorem dX5_in_10 : decode cX5_in 10 = .ok (.iconst 1, 1) := by decide +kernel
theorem dX5_in_11 : decode cX5_in 11 = .ok (.goto 4, 3) := by decide +kernel
theorem dX5_in_14 : decode cX5_in 14 = .ok (.iconst 0, 1) := by decide +kernel
theorem dX5_in_15 : decode cX5_in 15 = .ok (.ireturn, 1) := by decide +kernel
theorem dX5_isEnd_0 : decode cX5_isEnd 0 = .ok (.iload_n 0, 1) := by decide +kernel
theorem dX5_isEnd_1 : decode cX5_isEnd 1 = .ok (.iconst 0, 1) := by decide +kernel
theorem dX5_isEnd_2 : decode cX5_isEnd 2 = .ok (.iconst 1, 1) := by decide +kernel
theorem dX5_isEnd_3 : decode cX5_isEnd 3 = .ok (.invokestatic 81, 3) := by decide +kernel
theorem dX5_isEnd_6 : decode cX5_isEnd 6 = .ok (.ireturn, 1) := by decide +kernel
theorem dX5_isOption_0 : decode cX5_isOption 0 = .ok (.iload_n 0, 1) := by decide +kernel
theorem dX5_isOption_1 : decode cX5_isOption 1 = .ok (.iconst 0, 1) := by decide +kernel
theorem dX5_isOption_2 : decode cX5_isOption 2 = .ok (.iconst 5, 1) := by decide +kernel
theorem dX5_isOption_3 : decode cX5_isOption 3 = .ok (.invokestatic 81, 3) := by decide +kernel
theorem dX5_isOption_6 : decode cX5_isOption 6 = .ok (.ireturn, 1) := by decide +kernel
theorem dX5_wish_0 : decode cX5_wish 0 = .ok (.aload_n 0, 1) := by decide +kernel
theorem dX5_wish_1 : decode cX5_wish 1 = .ok (.iload_n 1, 1) := by decide +kernel
theorem dX5_wish_2 : decode cX5_wish 2 = .ok (.invokestatic 85, 3) := by decide +kernel
theorem dX5_wish_5 : decode cX5_wish 5 = .ok (.ifCond .eq 10, 3) := by decide +kernel
theorem dX5_wish_8 : decode cX5_wish 8 = .ok (.iload_n 2, 1) := by decide +kernel
theorem dX5_wish_9 : decode cX5_wish 9 = .ok (.invokestatic 89, 3) := by decide +kernel
theorem dX5_wish_12 : decode cX5_wish 12 = .ok (.ifCond .ne 7, 3) := by decide +kernel
theorem dX5_wish_15 : decode cX5_wish 15 = .ok (.iconst 1, 1) := by decide +kernel
theorem dX5_wish_16 : decode cX5_wish 16 = .ok (.goto 18, 3) := by decide +kernel
theorem dX5_wish_19 : decode cX5_wish 19 = .ok (.iload_n 3, 1) := by decide +kernel
theorem dX5_wish_20 : decode cX5_wish 20 = .ok (.iconst (-1), 1) := by decide +kernel
theorem dX5_wish_21 : decode cX5_wish 21 = .ok (.bipush 9, 2) := by decide +kernel
theorem dX5_wish_23 : decode cX5_wish 23 = .ok (.invokestatic 81, 3) := by decide +kernel
theorem dX5_wish_26 : decode cX5_wish 26 = .ok (.ifCond .eq 7, 3) := by decide +kernel
theorem dX5_wish_29 : decode cX5_wish 29 = .ok (.iconst 0, 1) := by decide +kernel
theorem dX5_wish_30 : decode cX5_wish 30 = .ok (.goto 4, 3) := by decide +kernel
theorem dX5_wish_33 : decode cX5_wish 33 = .ok (.iconst 2, 1) := by decide +kernel
theorem dX5_wish_34 : decode cX5_wish 34 = .ok (.putfield 77, 3) := by decide +kernel
theorem dX5_wish_37 : decode cX5_wish 37 = .ok (.aload_n 0, 1) := by decide +kernel
theorem dX5_wish_38 : decode cX5_wish 38 = .ok (.getfield 77, 3) := by decide +kernel
theorem dX5_wish_41 : decode cX5_wish 41 = .ok (.ifCond .le 5, 3) := by decide +kernel
theorem dX5_wish_44 : decode cX5_wish 44 = .ok (.iconst 0, 1) := by decide +kernel
theorem dX5_wish_45 : decode cX5_wish 45 = .ok (.ireturn, 1) := by decide +kernel
theorem dX5_wish_46 : decode cX5_wish 46 = .ok (.aload_n 0, 1) := by decide +kernel
theorem dX5_wish_47 : decode cX5_wish 47 = .ok (.getfield 9, 3) := by decide +kernel
theorem dX5_wish_50 : decode cX5_wish 50 = .ok (.bipush 6, 2) := by decide +kernel
theorem dX5_wish_52 : decode cX5_wish 52 = .ok (.iload_n 1, 1) := by decide +kernel
theorem dX5_wish_53 : decode cX5_wish 53 = .ok (.imul, 1) := by decide +kernel
theorem dX5_wish_54 : decode cX5_wish 54 = .ok (.iload_n 2, 1) := by decide +kernel
theorem dX5_wish_55 : decode cX5_wish 55 = .ok (.iadd, 1) := by decide +kernel
theorem dX5_wish_56 : decode cX5_wish 56 = .ok (.iaload, 1) := by decide +kernel
theorem dX5_wish_57 : decode cX5_wish 57 = .ok (.istore 4, 2) := by decide +kernel
theorem dX5_wish_59 : decode cX5_wish 59 = .ok (.aload_n 0, 1) := by decide +kernel
theorem dX5_wish_60 : decode cX5_wish 60 = .ok (.getfield 9, 3) := by decide +kernel
theorem dX5_wish_63 : decode cX5_wish 63 = .ok (.bipush 6, 2) := by decide +kernel
theorem dX5_wish_65 : decode cX5_wish 65 = .ok (.iload_n 1, 1) := by decide +kernel
theorem dX5_wish_66 : decode cX5_wish 66 = .ok (.imul, 1) := by decide +kernel
theorem dX5_wish_67 : decode cX5_wish 67 = .ok (.iload_n 2, 1) := by decide +kernel
theorem dX5_wish_68 : decode cX5_wish 68 = .ok (.iadd, 1) := by decide +kernel
theorem dX5_wish_69 : decode cX5_wish 69 = .ok (.iload_n 3, 1) := by decide +kernel
theorem dX5_wish_70 : decode cX5_wish 70 = .ok (.iastore, 1) := by decide +kernel
theorem dX5_wish_71 : decode cX5_wish 71 = .ok (.iload 4, 2) := by decide +kernel
theorem dX5_wish_73 : decode cX5_wish 73 = .ok (.ireturn, 1) := by decide +kernel
theorem dX5_allow_0 : decode cX5_allow 0 = .ok (.aload_n 0, 1) := by decide +kernel
theorem dX5_allow_1 : decode cX5_allow 1 = .ok (.iload_n 1, 1) := by decide +kernel
theorem dX5_allow_2 : decode cX5_allow 2 = .ok (.invokestatic 85, 3) := by decide +kernel
theorem dX5_allow_5 : decode cX5_allow 5 = .ok (.ifCond .eq 10, 3) := by decide +kernel
theorem dX5_allow_8 : decode cX5_allow 8 = .ok (.iload_n 2, 1) := by decide +kernel
theorem dX5_allow_9 : decode cX5_allow 9 = .ok (.invokestatic 89, 3) := by decide +kernel
theorem dX5_allow_12 : decode cX5_allow 12 = .ok (.ifCond .ne 7, 3) := by decide +kernel
theorem dX5_allow_15 : decode cX5_allow 15 = .ok (.iconst 1, 1) := by decide +kernel
theorem dX5_allow_16 : decode cX5_allow 16 = .ok (.goto 19, 3) := by decide +kernel
theorem dX5_allow_19 : decode cX5_allow 19 = .ok (.iload_n 3, 1) := by decide +kernel
theorem dX5_allow_20 : decode cX5_allow 20 = .ok (.iconst 0, 1) := by decide +kernel
theorem dX5_allow_21 : decode cX5_allow 21 = .ok (.sipush 1023, 3) := by decide +kernel
theorem dX5_allow_24 : decode cX5_allow 24 = .ok (.invokestatic 81, 3) := by decide +kernel
theorem dX5_allow_27 : decode cX5_allow 27 = .ok (.ifCond .eq 7, 3) := by decide +kernel
theorem dX5_allow_30 : decode cX5_allow 30 = .ok (.iconst 0, 1) := by decide +kernel
theorem dX5_allow_31 : decode cX5_allow 31 = .ok (.goto 4, 3) := by decide +kernel
theorem dX5_allow_34 : decode cX5_allow 34 = .ok (.iconst 2, 1) := by decide +kernel
theorem dX5_allow_35 : decode cX5_allow 35 = .ok (.putfield 77, 3) := by decide +kernel
theorem dX5_allow_38 : decode cX5_allow 38 = .ok (.aload_n 0, 1) := by decide +kernel
theorem dX5_allow_39 : decode cX5_allow 39 = .ok (.getfield 77, 3) := by decide +kernel
theorem dX5_allow_42 : decode cX5_allow 42 = .ok (.ifCond .le 5, 3) := by decide +kernel
theorem dX5_allow_45 : decode cX5_allow 45 = .ok (.iconst 0, 1) := by decide +kernel
theorem dX5_allow_46 : decode cX5_allow 46 = .ok (.ireturn, 1) := by decide +kernel
theorem dX5_allow_47 : decode cX5_allow 47 = .ok (.aload_n 0, 1) := by decide +kernel
theorem dX5_allow_48 : decode cX5_allow 48 = .ok (.getfield 13, 3) := by decide +kernel
theorem dX5_allow_51 : decode cX5_allow 51 = .ok (.bipush 6, 2) := by decide +kernel
theorem dX5_allow_53 : decode cX5_allow 53 = .ok (.iload_n 1, 1) := by decide +kernel
theorem dX5_allow_54 : decode cX5_allow 54 = .ok (.imul, 1) := by decide +kernel
theorem dX5_allow_55 : decode cX5_allow 55 = .ok (.iload_n 2, 1) := by decide +kernel
theorem dX5_allow_56 : decode cX5_allow 56 = .ok (.iadd, 1) := by decide +kernel
theorem dX5_allow_57 : decode cX5_allow 57 = .ok (.iaload, 1) := by decide +kernel
theorem dX5_allow_58 : decode cX5_allow 58 = .ok (.istore 4, 2) := by decide +kernel
theorem dX5_allow_60 : decode cX5_allow 60 = .ok (.aload_n 0, 1) := by decide +kernel
theorem dX5_allow_61 : decode cX5_allow 61 = .ok (.getfield 13, 3) := by decide +kernel
theorem dX5_allow_64 : decode cX5_allow 64 = .ok (.bipush 6, 2) := by decide +kernel
theorem dX5_allow_66 : decode cX5_allow 66 = .ok (.iload_n 1, 1) := by decide +kernel
theorem dX5_allow_67 : decode cX5_allow 67 = .ok (.imul, 1) := by decide +kernel
theorem dX5_allow_68 : decode cX5_allow 68 = .ok (.iload_n 2, 1) := by decide +kernel
theorem dX5_allow_69 : decode cX5_allow 69 = .ok (.iadd, 1) := by decide +kernel
theorem dX5_allow_70 : decode cX5_allow 70 = .ok (.iload_n 3, 1) := by decide +kernel
theorem dX5_allow_71 : decode cX5_allow 71 = .ok (.iastore, 1) := by decide +kernel
theorem dX5_allow_72 : decode cX5_allow 72 = .ok (.iload 4, 2) := by decide +kernel
theorem dX5_allow_74 : decode cX5_allow 74 = .ok (.ireturn, 1) := by decide +kernel
theorem dX5_setMagic_0 : decode cX5_setMagic 0 = .ok (.aload_n 0, 1) := by decide +kernel
theorem dX5_setMagic_1 : decode cX5_setMagic 1 = .ok (.iload_n 1, 1) := by decide +kernel
theorem dX5_setMagic_2 : decode cX5_setMagic 2 = .ok (.invokestatic 85, 3) := by decide +kernel
theorem dX5_setMagic_5 : decode cX5_setMagic 5 = .ok (.ifCond .eq 7, 3) := by decide +kernel
theorem dX5_setMagic_8 : decode cX5_setMagic 8 = .ok (.iconst 0, 1) := by decide +kernel
theorem dX5_setMagic_9 : decode cX5_setMagic 9 = .ok (.goto 4, 3) := by decide +kernel
theorem dX5_setMagic_12 : decode cX5_setMagic 12 = .ok (.iconst 1, 1) := by decide +kernel
theorem dX5_setMagic_13 : decode cX5_setMagic 13 = .ok (.putfield 77, 3) := by decide +kernel
theorem dX5_setMagic_16 : decode cX5_setMagic 16 = .ok (.aload_n 0, 1) := by decide +kernel
theorem dX5_setMagic_17 : decode cX5_setMagic 17 = .ok (.getfield 77, 3) := by decide +kernel
theorem dX5_setMagic_20 : decode cX5_setMagic 20 = .ok (.ifCond .le 5, 3) := by decide +kernel
theorem dX5_setMagic_23 : decode cX5_setMagic 23 = .ok (.iconst 0, 1) := by decide +kernel
theorem dX5_setMagic_24 : decode cX5_setMagic 24 = .ok (.ireturn, 1) := by decide +kernel
theorem dX5_setMagic_25 : decode cX5_setMagic 25 = .ok (.aload_n 0, 1) := by decide +kernel
theorem dX5_setMagic_26 : decode cX5_setMagic 26 = .ok (.getfield 19, 3) := by decide +kernel
theorem dX5_setMagic_29 : decode cX5_setMagic 29 = .ok (.iload_n 1, 1) := by decide +kernel
theorem dX5_setMagic_30 : decode cX5_setMagic 30 = .ok (.iaload, 1) := by decide +kernel
theorem dX5_setMagic_31 : decode cX5_setMagic 31 = .ok (.istore_n 3, 1) := by decide +kernel
theorem dX5_setMagic_32 : decode cX5_setMagic 32 = .ok (.aload_n 0, 1) := by decide +kernel
theorem dX5_setMagic_33 : decode cX5_setMagic 33 = .ok (.getfield 19, 3) := by decide +kernel
theorem dX5_setMagic_36 : decode cX5_setMagic 36 = .ok (.iload_n 1, 1) := by decide +kernel
theorem dX5_setMagic_37 : decode cX5_setMagic 37 = .ok (.iload_n 2, 1) := by decide +kernel
theorem dX5_setMagic_38 : decode cX5_setMagic 38 = .ok (.iastore, 1) := by decide +kernel
theorem dX5_setMagic_39 : decode cX5_setMagic 39 = .ok (.iload_n 3, 1) := by decide +kernel
theorem dX5_setMagic_40 : decode cX5_setMagic 40 = .ok (.ireturn, 1) := by decide +kernel
theorem dX5_sends_0 : decode cX5_sends 0 = .ok (.sipush 1024, 3) := by decide +kernel
theorem dX5_sends_3 : decode cX5_sends 3 = .ok (.iload_n 1, 1) := by decide +kernel
theorem dX5_sends_4 : decode cX5_sends 4 = .ok (.imul, 1) := by decide +kernel
theorem dX5_sends_5 : decode cX5_sends 5 = .ok (.aload_n 0, 1) := by decide +kernel
theorem dX5_sends_6 : decode cX5_sends 6 = .ok (.getfield 41, 3) := by decide +kernel
theorem dX5_sends_9 : decode cX5_sends 9 = .ok (.iload_n 1, 1) := by decide +kernel
theorem dX5_sends_10 : decode cX5_sends 10 = .ok (.iaload, 1) := by decide +kernel
theorem dX5_sends_11 : decode cX5_sends 11 = .ok (.aload_n 0, 1) := by decide +kernel
theorem dX5_sends_12 : decode cX5_sends 12 = .ok (.getfield 44, 3) := by decide +kernel
theorem dX5_sends_15 : decode cX5_sends 15 = .ok (.iload_n 1, 1) := by decide +kernel
theorem dX5_sends_16 : decode cX5_sends 16 = .ok (.iaload, 1) := by decide +kernel
theorem dX5_sends_17 : decode cX5_sends 17 = .ok (.iadd, 1) := by decide +kernel
theorem dX5_sends_18 : decode cX5_sends 18 = .ok (.sipush 1024, 3) := by decide +kernel
theorem dX5_sends_21 : decode cX5_sends 21 = .ok (.irem, 1) := by decide +kernel
theorem dX5_sends_22 : decode cX5_sends 22 = .ok (.iadd, 1) := by decide +kernel
theorem dX5_sends_23 : decode cX5_sends 23 = .ok (.istore 5, 2) := by decide +kernel
theorem dX5_sends_25 : decode cX5_sends 25 = .ok (.aload_n 0, 1) := by decide +kernel
theorem dX5_sends_26 : decode cX5_sends 26 = .ok (.getfield 47, 3) := by decide +kernel
theorem dX5_sends_29 : decode cX5_sends 29 = .ok (.iload 5, 2) := by decide +kernel
theorem dX5_sends_31 : decode cX5_sends 31 = .ok (.iload_n 2, 1) := by decide +kernel
theorem dX5_sends_32 : decode cX5_sends 32 = .ok (.iastore, 1) := by decide +kernel
theorem dX5_sends_33 : decode cX5_sends 33 = .ok (.aload_n 0, 1) := by decide +kernel
theorem dX5_sends_34 : decode cX5_sends 34 = .ok (.getfield 50, 3) := by decide +kernel
theorem dX5_sends_37 : decode cX5_sends 37 = .ok (.iload 5, 2) := by decide +kernel
theorem dX5_sends_39 : decode cX5_sends 39 = .ok (.iload_n 3, 1) := by decide +kernel
theorem dX5_sends_40 : decode cX5_sends 40 = .ok (.iastore, 1) := by decide +kernel
theorem dX5_sends_41 : decode cX5_sends 41 = .ok (.aload_n 0, 1) := by decide +kernel
theorem dX5_sends_42 : decode cX5_sends 42 = .ok (.getfield 53, 3) := by decide +kernel
theorem dX5_sends_45 : decode cX5_sends 45 = .ok (.iload 5, 2) := by decide +kernel
theorem dX5_sends_47 : decode cX5_sends 47 = .ok (.aload_n 0, 1) := by decide +kernel
theorem dX5_sends_48 : decode cX5_sends 48 = .ok (.getfield 19, 3) := by decide +kernel
theorem dX5_sends_51 : decode cX5_sends 51 = .ok (.iload_n 1, 1) := by decide +kernel
theorem dX5_sends_52 : decode cX5_sends 52 = .ok (.iaload, 1) := by decide +kernel
theorem dX5_sends_53 : decode cX5_sends 53 = .ok (.iastore, 1) := by decide +kernel
theorem dX5_sends_54 : decode cX5_sends 54 = .ok (.aload_n 0, 1) := by decide +kernel
theorem dX5_sends_55 : decode cX5_sends 55 = .ok (.getfield 56, 3) := by decide +kernel
theorem dX5_sends_58 : decode cX5_sends 58 = .ok (.iload 5, 2) := by decide +kernel
theorem dX5_sends_60 : decode cX5_sends 60 = .ok (.iload 4, 2) := by decide +kernel
theorem dX5_sends_62 : decode cX5_sends 62 = .ok (.iastore, 1) := by decide +kernel
theorem dX5_sends_63 : decode cX5_sends 63 = .ok (.aload_n 0, 1) := by decide +kernel
theorem dX5_sends_64 : decode cX5_sends 64 = .ok (.getfield 44, 3) := by decide +kernel
theorem dX5_sends_67 : decode cX5_sends 67 = .ok (.iload_n 1, 1) := by decide +kernel
theorem dX5_sends_68 : decode cX5_sends 68 = .ok (.dup2, 1) := by decide +kernel
theorem dX5_sends_69 : decode cX5_sends 69 = .ok (.iaload, 1) := by decide +kernel
theorem dX5_sends_70 : decode cX5_sends 70 = .ok (.iconst 1, 1) := by decide +kernel
theorem dX5_sends_71 : decode cX5_sends 71 = .ok (.iadd, 1) := by decide +kernel
theorem dX5_sends_72 : decode cX5_sends 72 = .ok (.iastore, 1) := by decide +kernel
theorem dX5_sends_73 : decode cX5_sends 73 = .ok (.return_, 1) := by decide +kernel
theorem dX5_place_0 : decode cX5_place 0 = .ok (.iconst 1, 1) := by decide +kernel
theorem dX5_place_1 : decode cX5_place 1 = .ok (.istore_n 1, 1) := by decide +kernel
theorem dX5_place_2 : decode cX5_place 2 = .ok (.iconst 0, 1) := by decide +kernel
theorem dX5_place_3 : decode cX5_place 3 = .ok (.istore_n 2, 1) := by decide +kernel
theorem dX5_place_4 : decode cX5_place 4 = .ok (.iload_n 2, 1) := by decide +kernel
theorem dX5_place_5 : decode cX5_place 5 = .ok (.iload_n 0, 1) := by decide +kernel
theorem dX5_place_6 : decode cX5_place 6 = .ok (.if_icmp .ge 14, 3) := by decide +kernel
theorem dX5_place_9 : decode cX5_place 9 = .ok (.iload_n 1, 1) := by decide +kernel
theorem dX5_place_10 : decode cX5_place 10 = .ok (.bipush 11, 2) := by decide +kernel
theorem dX5_place_12 : decode cX5_place 12 = .ok (.imul, 1) := by decide +kernel
theorem dX5_place_13 : decode cX5_place 13 = .ok (.istore_n 1, 1) := by decide +kernel
theorem dX5_place_14 : decode cX5_place 14 = .ok (.iinc 2 1, 3) := by decide +kernel
theorem dX5_place_17 : decode cX5_place 17 = .ok (.goto (-13), 3) := by decide +kernel
theorem dX5_place_20 : decode cX5_place 20 = .ok (.iload_n 1, 1) := by decide +kernel
theorem dX5_place_21 : decode cX5_place 21 = .ok (.ireturn, 1) := by decide +kernel
theorem dX5_valueIn_0 : decode cX5_valueIn 0 = .ok (.iload_n 0, 1) := by decide +kernel
theorem dX5_valueIn_1 : decode cX5_valueIn 1 = .ok (.iload_n 1, 1) := by decide +kernel
theorem dX5_valueIn_2 : decode cX5_valueIn 2 = .ok (.invokestatic 92, 3) := by decide +kernel
theorem dX5_valueIn_5 : decode cX5_valueIn 5 = .ok (.idiv, 1) := by decide +kernel
theorem dX5_valueIn_6 : decode cX5_valueIn 6 = .ok (.bipush 11, 2) := by decide +kernel
theorem dX5_valueIn_8 : decode cX5_valueIn 8 = .ok (.irem, 1) := by decide +kernel
theorem dX5_valueIn_9 : decode cX5_valueIn 9 = .ok (.iconst 1, 1) := by decide +kernel
theorem dX5_valueIn_10 : decode cX5_valueIn 10 = .ok (.isub, 1) := by decide +kernel
theorem dX5_valueIn_11 : decode cX5_valueIn 11 = .ok (.ireturn, 1) := by decide +kernel
theorem dX5_begs_0 : decode cX5_begs 0 = .ok (.aload_n 0, 1) := by decide +kernel
theorem dX5_begs_1 : decode cX5_begs 1 = .ok (.getfield 28, 3) := by decide +kernel
theorem dX5_begs_4 : decode cX5_begs 4 = .ok (.iload_n 1, 1) := by decide +kernel
theorem dX5_begs_5 : decode cX5_begs 5 = .ok (.iaload, 1) := by decide +kernel
theorem dX5_begs_6 : decode cX5_begs 6 = .ok (.bipush 10, 2) := by decide +kernel
theorem dX5_begs_8 : decode cX5_begs 8 = .ok (.if_icmp .ne 12, 3) := by decide +kernel
theorem dX5_begs_11 : decode cX5_begs 11 = .ok (.aload_n 0, 1) := by decide +kernel
theorem dX5_begs_12 : decode cX5_begs 12 = .ok (.getfield 22, 3) := by decide +kernel
theorem dX5_begs_15 : decode cX5_begs 15 = .ok (.iload_n 1, 1) := by decide +kernel
theorem dX5_begs_16 : decode cX5_begs 16 = .ok (.iconst 0, 1) := by decide +kernel
theorem dX5_begs_17 : decode cX5_begs 17 = .ok (.iastore, 1) := by decide +kernel
theorem dX5_begs_18 : decode cX5_begs 18 = .ok (.iconst 0, 1) := by decide +kernel
theorem dX5_begs_19 : decode cX5_begs 19 = .ok (.ireturn, 1) := by decide +kernel
theorem dX5_begs_20 : decode cX5_begs 20 = .ok (.aload_n 0, 1) := by decide +kernel
theorem dX5_begs_21 : decode cX5_begs 21 = .ok (.getfield 25, 3) := by decide +kernel
theorem dX5_begs_24 : decode cX5_begs 24 = .ok (.iload_n 1, 1) := by decide +kernel
theorem dX5_begs_25 : decode cX5_begs 25 = .ok (.dup2, 1) := by decide +kernel
theorem dX5_begs_26 : decode cX5_begs 26 = .ok (.iaload, 1) := by decide +kernel
theorem dX5_begs_27 : decode cX5_begs 27 = .ok (.iconst 1, 1) := by decide +kernel
theorem dX5_begs_28 : decode cX5_begs 28 = .ok (.iadd, 1) := by decide +kernel
theorem dX5_begs_29 : decode cX5_begs 29 = .ok (.iastore, 1) := by decide +kernel
theorem dX5_begs_30 : decode cX5_begs 30 = .ok (.aload_n 0, 1) := by decide +kernel
theorem dX5_begs_31 : decode cX5_begs 31 = .ok (.getfield 28, 3) := by decide +kernel
theorem dX5_begs_34 : decode cX5_begs 34 = .ok (.iload_n 1, 1) := by decide +kernel
theorem dX5_begs_35 : decode cX5_begs 35 = .ok (.dup2, 1) := by decide +kernel
theorem dX5_begs_36 : decode cX5_begs 36 = .ok (.iaload, 1) := by decide +kernel
theorem dX5_begs_37 : decode cX5_begs 37 = .ok (.iconst 1, 1) := by decide +kernel
theorem dX5_begs_38 : decode cX5_begs 38 = .ok (.iadd, 1) := by decide +kernel
theorem dX5_begs_39 : decode cX5_begs 39 = .ok (.iastore, 1) := by decide +kernel
theorem dX5_begs_40 : decode cX5_begs 40 = .ok (.aload_n 0, 1) := by decide +kernel
theorem dX5_begs_41 : decode cX5_begs 41 = .ok (.getfield 31, 3) := by decide +kernel
theorem dX5_begs_44 : decode cX5_begs 44 = .ok (.iload_n 1, 1) := by decide +kernel
theorem dX5_begs_45 : decode cX5_begs 45 = .ok (.iconst 3, 1) := by decide +kernel
theorem dX5_begs_46 : decode cX5_begs 46 = .ok (.iastore, 1) := by decide +kernel
theorem dX5_begs_47 : decode cX5_begs 47 = .ok (.iconst 0, 1) := by decide +kernel
theorem dX5_begs_48 : decode cX5_begs 48 = .ok (.istore_n 2, 1) := by decide +kernel
theorem dX5_begs_49 : decode cX5_begs 49 = .ok (.iconst 0, 1) := by decide +kernel
theorem dX5_begs_50 : decode cX5_begs 50 = .ok (.istore_n 3, 1) := by decide +kernel
theorem dX5_begs_51 : decode cX5_begs 51 = .ok (.iload_n 3, 1) := by decide +kernel
theorem dX5_begs_52 : decode cX5_begs 52 = .ok (.bipush 6, 2) := by decide +kernel
theorem dX5_begs_54 : decode cX5_begs 54 = .ok (.if_icmp .ge 30, 3) := by decide +kernel
theorem dX5_begs_57 : decode cX5_begs 57 = .ok (.iload_n 2, 1) := by decide +kernel
theorem dX5_begs_58 : decode cX5_begs 58 = .ok (.iload_n 3, 1) := by decide +kernel
theorem dX5_begs_59 : decode cX5_begs 59 = .ok (.invokestatic 92, 3) := by decide +kernel
theorem dX5_begs_62 : decode cX5_begs 62 = .ok (.aload_n 0, 1) := by decide +kernel
theorem dX5_begs_63 : decode cX5_begs 63 = .ok (.getfield 16, 3) := by decide +kernel
theorem dX5_begs_66 : decode cX5_begs 66 = .ok (.bipush 6, 2) := by decide +kernel
theorem dX5_begs_68 : decode cX5_begs 68 = .ok (.iload_n 1, 1) := by decide +kernel
theorem dX5_begs_69 : decode cX5_begs 69 = .ok (.imul, 1) := by decide +kernel
theorem dX5_begs_70 : decode cX5_begs 70 = .ok (.iload_n 3, 1) := by decide +kernel
theorem dX5_begs_71 : decode cX5_begs 71 = .ok (.iadd, 1) := by decide +kernel
theorem dX5_begs_72 : decode cX5_begs 72 = .ok (.iaload, 1) := by decide +kernel
theorem dX5_begs_73 : decode cX5_begs 73 = .ok (.iconst 1, 1) := by decide +kernel
theorem dX5_begs_74 : decode cX5_begs 74 = .ok (.iadd, 1) := by decide +kernel
theorem dX5_begs_75 : decode cX5_begs 75 = .ok (.imul, 1) := by decide +kernel
theorem dX5_begs_76 : decode cX5_begs 76 = .ok (.iadd, 1) := by decide +kernel
theorem dX5_begs_77 : decode cX5_begs 77 = .ok (.istore_n 2, 1) := by decide +kernel
theorem dX5_begs_78 : decode cX5_begs 78 = .ok (.iinc 3 1, 3) := by decide +kernel
theorem dX5_begs_81 : decode cX5_begs 81 = .ok (.goto (-30), 3) := by decide +kernel
theorem dX5_begs_84 : decode cX5_begs 84 = .ok (.aload_n 0, 1) := by decide +kernel
theorem dX5_begs_85 : decode cX5_begs 85 = .ok (.iload_n 1, 1) := by decide +kernel
theorem dX5_begs_86 : decode cX5_begs 86 = .ok (.iconst 0, 1) := by decide +kernel
theorem dX5_begs_87 : decode cX5_begs 87 = .ok (.aload_n 0, 1) := by decide +kernel
theorem dX5_begs_88 : decode cX5_begs 88 = .ok (.getfield 25, 3) := by decide +kernel
theorem dX5_begs_91 : decode cX5_begs 91 = .ok (.iload_n 1, 1) := by decide +kernel
theorem dX5_begs_92 : decode cX5_begs 92 = .ok (.iaload, 1) := by decide +kernel
theorem dX5_begs_93 : decode cX5_begs 93 = .ok (.iload_n 2, 1) := by decide +kernel
theorem dX5_begs_94 : decode cX5_begs 94 = .ok (.invokevirtual 96, 3) := by decide +kernel
theorem dX5_begs_97 : decode cX5_begs 97 = .ok (.iconst 1, 1) := by decide +kernel
theorem dX5_begs_98 : decode cX5_begs 98 = .ok (.ireturn, 1) := by decide +kernel
theorem dX5_lowest_0 : decode cX5_lowest 0 = .ok (.iconst 0, 1) := by decide +kernel
theorem dX5_lowest_1 : decode cX5_lowest 1 = .ok (.istore_n 1, 1) := by decide +kernel
theorem dX5_lowest_2 : decode cX5_lowest 2 = .ok (.iload_n 0, 1) := by decide +kernel
theorem dX5_lowest_3 : decode cX5_lowest 3 = .ok (.iload_n 1, 1) := by decide +kernel
theorem dX5_lowest_4 : decode cX5_lowest 4 = .ok (.ishr, 1) := by decide +kernel
theorem dX5_lowest_5 : decode cX5_lowest 5 = .ok (.iconst 1, 1) := by decide +kernel
theorem dX5_lowest_6 : decode cX5_lowest 6 = .ok (.iand, 1) := by decide +kernel
theorem dX5_lowest_7 : decode cX5_lowest 7 = .ok (.ifCond .ne 9, 3) := by decide +kernel
theorem dX5_lowest_10 : decode cX5_lowest 10 = .ok (.iinc 1 1, 3) := by decide +kernel
theorem dX5_lowest_13 : decode cX5_lowest 13 = .ok (.goto (-11), 3) := by decide +kernel
theorem dX5_lowest_16 : decode cX5_lowest 16 = .ok (.iload_n 1, 1) := by decide +kernel
theorem dX5_lowest_17 : decode cX5_lowest 17 = .ok (.ireturn, 1) := by decide +kernel
theorem dX5_answers_0 : decode cX5_answers 0 = .ok (.iconst 0, 1) := by decide +kernel
theorem dX5_answers_1 : decode cX5_answers 1 = .ok (.istore 4, 2) := by decide +kernel
theorem dX5_answers_3 : decode cX5_answers 3 = .ok (.iconst 0, 1) := by decide +kernel
theorem dX5_answers_4 : decode cX5_answers 4 = .ok (.istore 5, 2) := by decide +kernel
theorem dX5_answers_6 : decode cX5_answers 6 = .ok (.iconst 0, 1) := by decide +kernel
theorem dX5_answers_7 : decode cX5_answers 7 = .ok (.istore 6, 2) := by decide +kernel
theorem dX5_answers_9 : decode cX5_answers 9 = .ok (.iload 6, 2) := by decide +kernel
theorem dX5_answers_11 : decode cX5_answers 11 = .ok (.bipush 6, 2) := by decide +kernel
theorem dX5_answers_13 : decode cX5_answers 13 = .ok (.if_icmp .ge 104, 3) := by decide +kernel
theorem dX5_answers_16 : decode cX5_answers 16 = .ok (.iload_n 3, 1) := by decide +kernel
theorem dX5_answers_17 : decode cX5_answers 17 = .ok (.iload 6, 2) := by decide +kernel
theorem dX5_answers_19 : decode cX5_answers 19 = .ok (.invokestatic 100, 3) := by decide +kernel
theorem dX5_answers_22 : decode cX5_answers 22 = .ok (.istore 7, 2) := by decide +kernel
theorem dX5_answers_24 : decode cX5_answers 24 = .ok (.aload_n 0, 1) := by decide +kernel
theorem dX5_answers_25 : decode cX5_answers 25 = .ok (.getfield 13, 3) := by decide +kernel
theorem dX5_answers_28 : decode cX5_answers 28 = .ok (.bipush 6, 2) := by decide +kernel
theorem dX5_answers_30 : decode cX5_answers 30 = .ok (.iload_n 1, 1) := by decide +kernel
theorem dX5_answers_31 : decode cX5_answers 31 = .ok (.imul, 1) := by decide +kernel
theorem dX5_answers_32 : decode cX5_answers 32 = .ok (.iload 6, 2) := by decide +kernel
theorem dX5_answers_34 : decode cX5_answers 34 = .ok (.iadd, 1) := by decide +kernel
theorem dX5_answers_35 : decode cX5_answers 35 = .ok (.iaload, 1) := by decide +kernel
theorem dX5_answers_36 : decode cX5_answers 36 = .ok (.istore 8, 2) := by decide +kernel
theorem dX5_answers_38 : decode cX5_answers 38 = .ok (.iload 4, 2) := by decide +kernel
theorem dX5_answers_40 : decode cX5_answers 40 = .ok (.iload 7, 2) := by decide +kernel
theorem dX5_answers_42 : decode cX5_answers 42 = .ok (.iconst (-1), 1) := by decide +kernel
theorem dX5_answers_43 : decode cX5_answers 43 = .ok (.if_icmp .eq 21, 3) := by decide +kernel
theorem dX5_answers_46 : decode cX5_answers 46 = .ok (.iload 8, 2) := by decide +kernel
theorem dX5_answers_48 : decode cX5_answers 48 = .ok (.ifCond .ne 16, 3) := by decide +kernel
theorem dX5_answers_51 : decode cX5_answers 51 = .ok (.iload 6, 2) := by decide +kernel
theorem dX5_answers_53 : decode cX5_answers 53 = .ok (.invokestatic 92, 3) := by decide +kernel
theorem dX5_answers_56 : decode cX5_answers 56 = .ok (.iload 7, 2) := by decide +kernel
theorem dX5_answers_58 : decode cX5_answers 58 = .ok (.iconst 1, 1) := by decide +kernel
theorem dX5_answers_59 : decode cX5_answers 59 = .ok (.iadd, 1) := by decide +kernel
theorem dX5_answers_60 : decode cX5_answers 60 = .ok (.imul, 1) := by decide +kernel
theorem dX5_answers_61 : decode cX5_answers 61 = .ok (.goto 4, 3) := by decide +kernel
theorem dX5_answers_64 : decode cX5_answers 64 = .ok (.iconst 0, 1) := by decide +kernel
theorem dX5_answers_65 : decode cX5_answers 65 = .ok (.iadd, 1) := by decide +kernel
theorem dX5_answers_66 : decode cX5_answers 66 = .ok (.istore 4, 2) := by decide +kernel
theorem dX5_answers_68 : decode cX5_answers 68 = .ok (.iload 5, 2) := by decide +kernel
theorem dX5_answers_70 : decode cX5_answers 70 = .ok (.iload 7, 2) := by decide +kernel
theorem dX5_answers_72 : decode cX5_answers 72 = .ok (.iconst (-1), 1) := by decide +kernel
theorem dX5_answers_73 : decode cX5_answers 73 = .ok (.if_icmp .eq 34, 3) := by decide +kernel
theorem dX5_answers_76 : decode cX5_answers 76 = .ok (.iload 8, 2) := by decide +kernel
theorem dX5_answers_78 : decode cX5_answers 78 = .ok (.ifCond .eq 29, 3) := by decide +kernel
theorem dX5_answers_81 : decode cX5_answers 81 = .ok (.iload 8, 2) := by decide +kernel
theorem dX5_answers_83 : decode cX5_answers 83 = .ok (.iload 7, 2) := by decide +kernel
theorem dX5_answers_85 : decode cX5_answers 85 = .ok (.ishr, 1) := by decide +kernel
theorem dX5_answers_86 : decode cX5_answers 86 = .ok (.iconst 1, 1) := by decide +kernel
theorem dX5_answers_87 : decode cX5_answers 87 = .ok (.iand, 1) := by decide +kernel
theorem dX5_answers_88 : decode cX5_answers 88 = .ok (.ifCond .ne 19, 3) := by decide +kernel
theorem dX5_answers_91 : decode cX5_answers 91 = .ok (.iload 6, 2) := by decide +kernel
theorem dX5_answers_93 : decode cX5_answers 93 = .ok (.invokestatic 92, 3) := by decide +kernel
theorem dX5_answers_96 : decode cX5_answers 96 = .ok (.iload 8, 2) := by decide +kernel
theorem dX5_answers_98 : decode cX5_answers 98 = .ok (.invokestatic 104, 3) := by decide +kernel
theorem dX5_answers_101 : decode cX5_answers 101 = .ok (.iconst 1, 1) := by decide +kernel
theorem dX5_answers_102 : decode cX5_answers 102 = .ok (.iadd, 1) := by decide +kernel
theorem dX5_answers_103 : decode cX5_answers 103 = .ok (.imul, 1) := by decide +kernel
theorem dX5_answers_104 : decode cX5_answers 104 = .ok (.goto 4, 3) := by decide +kernel
theorem dX5_answers_107 : decode cX5_answers 107 = .ok (.iconst 0, 1) := by decide +kernel
theorem dX5_answers_108 : decode cX5_answers 108 = .ok (.iadd, 1) := by decide +kernel
theorem dX5_answers_109 : decode cX5_answers 109 = .ok (.istore 5, 2) := by decide +kernel
theorem dX5_answers_111 : decode cX5_answers 111 = .ok (.iinc 6 1, 3) := by decide +kernel
theorem dX5_answers_114 : decode cX5_answers 114 = .ok (.goto (-105), 3) := by decide +kernel
theorem dX5_answers_117 : decode cX5_answers 117 = .ok (.iload 4, 2) := by decide +kernel
theorem dX5_answers_119 : decode cX5_answers 119 = .ok (.ifCond .le 15, 3) := by decide +kernel
theorem dX5_answers_122 : decode cX5_answers 122 = .ok (.aload_n 0, 1) := by decide +kernel
theorem dX5_answers_123 : decode cX5_answers 123 = .ok (.iload_n 1, 1) := by decide +kernel
theorem dX5_answers_124 : decode cX5_answers 124 = .ok (.iconst 3, 1) := by decide +kernel
theorem dX5_answers_125 : decode cX5_answers 125 = .ok (.iload_n 2, 1) := by decide +kernel
theorem dX5_answers_126 : decode cX5_answers 126 = .ok (.iload 4, 2) := by decide +kernel
theorem dX5_answers_128 : decode cX5_answers 128 = .ok (.invokevirtual 96, 3) := by decide +kernel
theorem dX5_answers_131 : decode cX5_answers 131 = .ok (.goto 68, 3) := by decide +kernel
theorem dX5_answers_134 : decode cX5_answers 134 = .ok (.iload 5, 2) := by decide +kernel
theorem dX5_answers_136 : decode cX5_answers 136 = .ok (.ifCond .le 15, 3) := by decide +kernel
theorem dX5_answers_139 : decode cX5_answers 139 = .ok (.aload_n 0, 1) := by decide +kernel
theorem dX5_answers_140 : decode cX5_answers 140 = .ok (.iload_n 1, 1) := by decide +kernel
theorem dX5_answers_141 : decode cX5_answers 141 = .ok (.iconst 2, 1) := by decide +kernel
theorem dX5_answers_142 : decode cX5_answers 142 = .ok (.iload_n 2, 1) := by decide +kernel
theorem dX5_answers_143 : decode cX5_answers 143 = .ok (.iload 5, 2) := by decide +kernel
theorem dX5_answers_145 : decode cX5_answers 145 = .ok (.invokevirtual 96, 3) := by decide +kernel
theorem dX5_answers_148 : decode cX5_answers 148 = .ok (.goto 51, 3) := by decide +kernel
theorem dX5_answers_151 : decode cX5_answers 151 = .ok (.aload_n 0, 1) := by decide +kernel
theorem dX5_answers_152 : decode cX5_answers 152 = .ok (.iload_n 1, 1) := by decide +kernel
theorem dX5_answers_153 : decode cX5_answers 153 = .ok (.iconst 1, 1) := by decide +kernel
theorem dX5_answers_154 : decode cX5_answers 154 = .ok (.iload_n 2, 1) := by decide +kernel
theorem dX5_answers_155 : decode cX5_answers 155 = .ok (.iconst 0, 1) := by decide +kernel
theorem dX5_answers_156 : decode cX5_answers 156 = .ok (.invokevirtual 96, 3) := by decide +kernel
theorem dX5_answers_159 : decode cX5_answers 159 = .ok (.aload_n 0, 1) := by decide +kernel
theorem dX5_answers_160 : decode cX5_answers 160 = .ok (.getfield 22, 3) := by decide +kernel
theorem dX5_answers_163 : decode cX5_answers 163 = .ok (.iload_n 1, 1) := by decide +kernel
theorem dX5_answers_164 : decode cX5_answers 164 = .ok (.aload_n 0, 1) := by decide +kernel
theorem dX5_answers_165 : decode cX5_answers 165 = .ok (.getfield 22, 3) := by decide +kernel
theorem dX5_answers_168 : decode cX5_answers 168 = .ok (.iload_n 1, 1) := by decide +kernel
theorem dX5_answers_169 : decode cX5_answers 169 = .ok (.iaload, 1) := by decide +kernel
theorem dX5_answers_170 : decode cX5_answers 170 = .ok (.iconst 1, 1) := by decide +kernel
theorem dX5_answers_171 : decode cX5_answers 171 = .ok (.if_icmp .ne 7, 3) := by decide +kernel
theorem dX5_answers_174 : decode cX5_answers 174 = .ok (.iconst 3, 1) := by decide +kernel
theorem dX5_answers_175 : decode cX5_answers 175 = .ok (.goto 23, 3) := by decide +kernel
theorem dX5_answers_178 : decode cX5_answers 178 = .ok (.aload_n 0, 1) := by decide +kernel
theorem dX5_answers_179 : decode cX5_answers 179 = .ok (.getfield 22, 3) := by decide +kernel
theorem dX5_answers_182 : decode cX5_answers 182 = .ok (.iload_n 1, 1) := by decide +kernel
theorem dX5_answers_183 : decode cX5_answers 183 = .ok (.iaload, 1) := by decide +kernel
theorem dX5_answers_184 : decode cX5_answers 184 = .ok (.iconst 2, 1) := by decide +kernel
theorem dX5_answers_185 : decode cX5_answers 185 = .ok (.if_icmp .ne 7, 3) := by decide +kernel
theorem dX5_answers_188 : decode cX5_answers 188 = .ok (.iconst 4, 1) := by decide +kernel
theorem dX5_answers_189 : decode cX5_answers 189 = .ok (.goto 9, 3) := by decide +kernel
theorem dX5_answers_192 : decode cX5_answers 192 = .ok (.aload_n 0, 1) := by decide +kernel
theorem dX5_answers_193 : decode cX5_answers 193 = .ok (.getfield 22, 3) := by decide +kernel
theorem dX5_answers_196 : decode cX5_answers 196 = .ok (.iload_n 1, 1) := by decide +kernel
theorem dX5_answers_197 : decode cX5_answers 197 = .ok (.iaload, 1) := by decide +kernel
theorem dX5_answers_198 : decode cX5_answers 198 = .ok (.iastore, 1) := by decide +kernel
theorem dX5_answers_199 : decode cX5_answers 199 = .ok (.iload 4, 2) := by decide +kernel
theorem dX5_answers_201 : decode cX5_answers 201 = .ok (.iload 5, 2) := by decide +kernel
theorem dX5_answers_203 : decode cX5_answers 203 = .ok (.iadd, 1) := by decide +kernel
theorem dX5_answers_204 : decode cX5_answers 204 = .ok (.ifCond .le 20, 3) := by decide +kernel
theorem dX5_answers_207 : decode cX5_answers 207 = .ok (.aload_n 0, 1) := by decide +kernel
theorem dX5_answers_208 : decode cX5_answers 208 = .ok (.getfield 22, 3) := by decide +kernel
theorem dX5_answers_211 : decode cX5_answers 211 = .ok (.iload_n 1, 1) := by decide +kernel
theorem dX5_answers_212 : decode cX5_answers 212 = .ok (.iaload, 1) := by decide +kernel
theorem dX5_answers_213 : decode cX5_answers 213 = .ok (.iconst 3, 1) := by decide +kernel
theorem dX5_answers_214 : decode cX5_answers 214 = .ok (.if_icmp .ne 10, 3) := by decide +kernel
theorem dX5_answers_217 : decode cX5_answers 217 = .ok (.aload_n 0, 1) := by decide +kernel
theorem dX5_answers_218 : decode cX5_answers 218 = .ok (.getfield 22, 3) := by decide +kernel
theorem dX5_answers_221 : decode cX5_answers 221 = .ok (.iload_n 1, 1) := by decide +kernel
theorem dX5_answers_222 : decode cX5_answers 222 = .ok (.iconst 1, 1) := by decide +kernel
theorem dX5_answers_223 : decode cX5_answers 223 = .ok (.iastore, 1) := by decide +kernel
theorem dX5_answers_224 : decode cX5_answers 224 = .ok (.return_, 1) := by decide +kernel
theorem dX5_comesRequest_0 : decode cX5_comesRequest 0 = .ok (.aload_n 0, 1) := by decide +kernel
theorem dX5_comesRequest_1 : decode cX5_comesRequest 1 = .ok (.getfield 34, 3) := by decide +kernel
theorem dX5_comesRequest_4 : decode cX5_comesRequest 4 = .ok (.iload_n 1, 1) := by decide +kernel
theorem dX5_comesRequest_5 : decode cX5_comesRequest 5 = .ok (.iload_n 3, 1) := by decide +kernel
theorem dX5_comesRequest_6 : decode cX5_comesRequest 6 = .ok (.aload_n 0, 1) := by decide +kernel
theorem dX5_comesRequest_7 : decode cX5_comesRequest 7 = .ok (.getfield 19, 3) := by decide +kernel
theorem dX5_comesRequest_10 : decode cX5_comesRequest 10 = .ok (.iload_n 1, 1) := by decide +kernel
theorem dX5_comesRequest_11 : decode cX5_comesRequest 11 = .ok (.iaload, 1) := by decide +kernel
theorem dX5_comesRequest_12 : decode cX5_comesRequest 12 = .ok (.if_icmp .ne 7, 3) := by decide +kernel
theorem dX5_comesRequest_15 : decode cX5_comesRequest 15 = .ok (.iconst 1, 1) := by decide +kernel
theorem dX5_comesRequest_16 : decode cX5_comesRequest 16 = .ok (.goto 4, 3) := by decide +kernel
theorem dX5_comesRequest_19 : decode cX5_comesRequest 19 = .ok (.iconst 0, 1) := by decide +kernel
theorem dX5_comesRequest_20 : decode cX5_comesRequest 20 = .ok (.bastore, 1) := by decide +kernel
theorem dX5_comesRequest_21 : decode cX5_comesRequest 21 = .ok (.aload_n 0, 1) := by decide +kernel
theorem dX5_comesRequest_22 : decode cX5_comesRequest 22 = .ok (.getfield 34, 3) := by decide +kernel
theorem dX5_comesRequest_25 : decode cX5_comesRequest 25 = .ok (.iload_n 1, 1) := by decide +kernel
theorem dX5_comesRequest_26 : decode cX5_comesRequest 26 = .ok (.baload, 1) := by decide +kernel
theorem dX5_comesRequest_27 : decode cX5_comesRequest 27 = .ok (.ifCond .eq 4, 3) := by decide +kernel
theorem dX5_comesRequest_30 : decode cX5_comesRequest 30 = .ok (.return_, 1) := by decide +kernel
theorem dX5_comesRequest_31 : decode cX5_comesRequest 31 = .ok (.aload_n 0, 1) := by decide +kernel
theorem dX5_comesRequest_32 : decode cX5_comesRequest 32 = .ok (.getfield 22, 3) := by decide +kernel
theorem dX5_comesRequest_35 : decode cX5_comesRequest 35 = .ok (.iload_n 1, 1) := by decide +kernel
theorem dX5_comesRequest_36 : decode cX5_comesRequest 36 = .ok (.iaload, 1) := by decide +kernel
theorem dX5_comesRequest_37 : decode cX5_comesRequest 37 = .ok (.ifCond .ne 12, 3) := by decide +kernel
theorem dX5_comesRequest_40 : decode cX5_comesRequest 40 = .ok (.aload_n 0, 1) := by decide +kernel
theorem dX5_comesRequest_41 : decode cX5_comesRequest 41 = .ok (.iload_n 1, 1) := by decide +kernel
theorem dX5_comesRequest_42 : decode cX5_comesRequest 42 = .ok (.iconst 4, 1) := by decide +kernel
theorem dX5_comesRequest_43 : decode cX5_comesRequest 43 = .ok (.iconst 0, 1) := by decide +kernel
theorem dX5_comesRequest_44 : decode cX5_comesRequest 44 = .ok (.iconst 0, 1) := by decide +kernel
theorem dX5_comesRequest_45 : decode cX5_comesRequest 45 = .ok (.invokevirtual 96, 3) := by decide +kernel
theorem dX5_comesRequest_48 : decode cX5_comesRequest 48 = .ok (.return_, 1) := by decide +kernel
theorem dX5_comesRequest_49 : decode cX5_comesRequest 49 = .ok (.aload_n 0, 1) := by decide +kernel
theorem dX5_comesRequest_50 : decode cX5_comesRequest 50 = .ok (.getfield 22, 3) := by decide +kernel
theorem dX5_comesRequest_53 : decode cX5_comesRequest 53 = .ok (.iload_n 1, 1) := by decide +kernel
theorem dX5_comesRequest_54 : decode cX5_comesRequest 54 = .ok (.iaload, 1) := by decide +kernel
theorem dX5_comesRequest_55 : decode cX5_comesRequest 55 = .ok (.iconst 4, 1) := by decide +kernel
theorem dX5_comesRequest_56 : decode cX5_comesRequest 56 = .ok (.if_icmp .ne 16, 3) := by decide +kernel
theorem dX5_comesRequest_59 : decode cX5_comesRequest 59 = .ok (.aload_n 0, 1) := by decide +kernel
theorem dX5_comesRequest_60 : decode cX5_comesRequest 60 = .ok (.getfield 22, 3) := by decide +kernel
theorem dX5_comesRequest_63 : decode cX5_comesRequest 63 = .ok (.iload_n 1, 1) := by decide +kernel
theorem dX5_comesRequest_64 : decode cX5_comesRequest 64 = .ok (.iconst 1, 1) := by decide +kernel
theorem dX5_comesRequest_65 : decode cX5_comesRequest 65 = .ok (.iastore, 1) := by decide +kernel
theorem dX5_comesRequest_66 : decode cX5_comesRequest 66 = .ok (.aload_n 0, 1) := by decide +kernel
theorem dX5_comesRequest_67 : decode cX5_comesRequest 67 = .ok (.iload_n 1, 1) := by decide +kernel
theorem dX5_comesRequest_68 : decode cX5_comesRequest 68 = .ok (.invokevirtual 107, 3) := by decide +kernel
theorem dX5_comesRequest_71 : decode cX5_comesRequest 71 = .ok (.pop, 1) := by decide +kernel
theorem dX5_comesRequest_72 : decode cX5_comesRequest 72 = .ok (.aload_n 0, 1) := by decide +kernel
theorem dX5_comesRequest_73 : decode cX5_comesRequest 73 = .ok (.getfield 22, 3) := by decide +kernel
theorem dX5_comesRequest_76 : decode cX5_comesRequest 76 = .ok (.iload_n 1, 1) := by decide +kernel
theorem dX5_comesRequest_77 : decode cX5_comesRequest 77 = .ok (.iaload, 1) := by decide +kernel
theorem dX5_comesRequest_78 : decode cX5_comesRequest 78 = .ok (.ifCond .eq 11, 3) := by decide +kernel
theorem dX5_comesRequest_81 : decode cX5_comesRequest 81 = .ok (.aload_n 0, 1) := by decide +kernel
theorem dX5_comesRequest_82 : decode cX5_comesRequest 82 = .ok (.iload_n 1, 1) := by decide +kernel
theorem dX5_comesRequest_83 : decode cX5_comesRequest 83 = .ok (.iload_n 2, 1) := by decide +kernel
theorem dX5_comesRequest_84 : decode cX5_comesRequest 84 = .ok (.iload 4, 2) := by decide +kernel
theorem dX5_comesRequest_86 : decode cX5_comesRequest 86 = .ok (.invokevirtual 110, 3) := by decide +kernel
theorem dX5_comesRequest_89 : decode cX5_comesRequest 89 = .ok (.return_, 1) := by decide +kernel
theorem dX5_comesAnswer_0 : decode cX5_comesAnswer 0 = .ok (.iload_n 2, 1) := by decide +kernel
theorem dX5_comesAnswer_1 : decode cX5_comesAnswer 1 = .ok (.iconst 1, 1) := by decide +kernel
theorem dX5_comesAnswer_2 : decode cX5_comesAnswer 2 = .ok (.if_icmp .ne 25, 3) := by decide +kernel
theorem dX5_comesAnswer_5 : decode cX5_comesAnswer 5 = .ok (.aload_n 0, 1) := by decide +kernel
theorem dX5_comesAnswer_6 : decode cX5_comesAnswer 6 = .ok (.getfield 22, 3) := by decide +kernel
theorem dX5_comesAnswer_9 : decode cX5_comesAnswer 9 = .ok (.iload_n 1, 1) := by decide +kernel
theorem dX5_comesAnswer_10 : decode cX5_comesAnswer 10 = .ok (.aload_n 0, 1) := by decide +kernel
theorem dX5_comesAnswer_11 : decode cX5_comesAnswer 11 = .ok (.getfield 22, 3) := by decide +kernel
theorem dX5_comesAnswer_14 : decode cX5_comesAnswer 14 = .ok (.iload_n 1, 1) := by decide +kernel
theorem dX5_comesAnswer_15 : decode cX5_comesAnswer 15 = .ok (.iaload, 1) := by decide +kernel
theorem dX5_comesAnswer_16 : decode cX5_comesAnswer 16 = .ok (.iconst 1, 1) := by decide +kernel
theorem dX5_comesAnswer_17 : decode cX5_comesAnswer 17 = .ok (.if_icmp .ne 7, 3) := by decide +kernel
theorem dX5_comesAnswer_20 : decode cX5_comesAnswer 20 = .ok (.iconst 2, 1) := by decide +kernel
theorem dX5_comesAnswer_21 : decode cX5_comesAnswer 21 = .ok (.goto 4, 3) := by decide +kernel
theorem dX5_comesAnswer_24 : decode cX5_comesAnswer 24 = .ok (.iconst 4, 1) := by decide +kernel
theorem dX5_comesAnswer_25 : decode cX5_comesAnswer 25 = .ok (.iastore, 1) := by decide +kernel
theorem dX5_comesAnswer_26 : decode cX5_comesAnswer 26 = .ok (.return_, 1) := by decide +kernel
theorem dX5_comesAnswer_27 : decode cX5_comesAnswer 27 = .ok (.iconst 0, 1) := by decide +kernel
theorem dX5_comesAnswer_28 : decode cX5_comesAnswer 28 = .ok (.istore 4, 2) := by decide +kernel
theorem dX5_comesAnswer_30 : decode cX5_comesAnswer 30 = .ok (.iload 4, 2) := by decide +kernel
theorem dX5_comesAnswer_32 : decode cX5_comesAnswer 32 = .ok (.bipush 6, 2) := by decide +kernel
theorem dX5_comesAnswer_34 : decode cX5_comesAnswer 34 = .ok (.if_icmp .ge 46, 3) := by decide +kernel
theorem dX5_comesAnswer_37 : decode cX5_comesAnswer 37 = .ok (.iload_n 3, 1) := by decide +kernel
theorem dX5_comesAnswer_38 : decode cX5_comesAnswer 38 = .ok (.iload 4, 2) := by decide +kernel
theorem dX5_comesAnswer_40 : decode cX5_comesAnswer 40 = .ok (.invokestatic 100, 3) := by decide +kernel
theorem dX5_comesAnswer_43 : decode cX5_comesAnswer 43 = .ok (.istore 5, 2) := by decide +kernel
theorem dX5_comesAnswer_45 : decode cX5_comesAnswer 45 = .ok (.iload 5, 2) := by decide +kernel
theorem dX5_comesAnswer_47 : decode cX5_comesAnswer 47 = .ok (.iconst (-1), 1) := by decide +kernel
theorem dX5_comesAnswer_48 : decode cX5_comesAnswer 48 = .ok (.if_icmp .eq 26, 3) := by decide +kernel
theorem dX5_comesAnswer_51 : decode cX5_comesAnswer 51 = .ok (.aload_n 0, 1) := by decide +kernel
theorem dX5_comesAnswer_52 : decode cX5_comesAnswer 52 = .ok (.getfield 16, 3) := by decide +kernel
theorem dX5_comesAnswer_55 : decode cX5_comesAnswer 55 = .ok (.bipush 6, 2) := by decide +kernel
theorem dX5_comesAnswer_57 : decode cX5_comesAnswer 57 = .ok (.iload_n 1, 1) := by decide +kernel
theorem dX5_comesAnswer_58 : decode cX5_comesAnswer 58 = .ok (.imul, 1) := by decide +kernel
theorem dX5_comesAnswer_59 : decode cX5_comesAnswer 59 = .ok (.iload 4, 2) := by decide +kernel
theorem dX5_comesAnswer_61 : decode cX5_comesAnswer 61 = .ok (.iadd, 1) := by decide +kernel
theorem dX5_comesAnswer_62 : decode cX5_comesAnswer 62 = .ok (.iload_n 2, 1) := by decide +kernel
theorem dX5_comesAnswer_63 : decode cX5_comesAnswer 63 = .ok (.iconst 2, 1) := by decide +kernel
theorem dX5_comesAnswer_64 : decode cX5_comesAnswer 64 = .ok (.if_icmp .ne 8, 3) := by decide +kernel
theorem dX5_comesAnswer_67 : decode cX5_comesAnswer 67 = .ok (.iload 5, 2) := by decide +kernel
theorem dX5_comesAnswer_69 : decode cX5_comesAnswer 69 = .ok (.goto 4, 3) := by decide +kernel
theorem dX5_comesAnswer_72 : decode cX5_comesAnswer 72 = .ok (.iconst (-1), 1) := by decide +kernel
theorem dX5_comesAnswer_73 : decode cX5_comesAnswer 73 = .ok (.iastore, 1) := by decide +kernel
theorem dX5_comesAnswer_74 : decode cX5_comesAnswer 74 = .ok (.iinc 4 1, 3) := by decide +kernel
theorem dX5_comesAnswer_77 : decode cX5_comesAnswer 77 = .ok (.goto (-47), 3) := by decide +kernel
theorem dX5_comesAnswer_80 : decode cX5_comesAnswer 80 = .ok (.aload_n 0, 1) := by decide +kernel
theorem dX5_comesAnswer_81 : decode cX5_comesAnswer 81 = .ok (.iload_n 1, 1) := by decide +kernel
theorem dX5_comesAnswer_82 : decode cX5_comesAnswer 82 = .ok (.invokevirtual 107, 3) := by decide +kernel
theorem dX5_comesAnswer_85 : decode cX5_comesAnswer 85 = .ok (.pop, 1) := by decide +kernel
theorem dX5_comesAnswer_86 : decode cX5_comesAnswer 86 = .ok (.return_, 1) := by decide +kernel
theorem dX5_comes_0 : decode cX5_comes 0 = .ok (.aload_n 0, 1) := by decide +kernel
theorem dX5_comes_1 : decode cX5_comes 1 = .ok (.getfield 47, 3) := by decide +kernel
theorem dX5_comes_4 : decode cX5_comes 4 = .ok (.iload_n 2, 1) := by decide +kernel
theorem dX5_comes_5 : decode cX5_comes 5 = .ok (.iaload, 1) := by decide +kernel
theorem dX5_comes_6 : decode cX5_comes 6 = .ok (.ifCond .ne 29, 3) := by decide +kernel
theorem dX5_comes_9 : decode cX5_comes 9 = .ok (.aload_n 0, 1) := by decide +kernel
theorem dX5_comes_10 : decode cX5_comes 10 = .ok (.iload_n 1, 1) := by decide +kernel
theorem dX5_comes_11 : decode cX5_comes 11 = .ok (.aload_n 0, 1) := by decide +kernel
theorem dX5_comes_12 : decode cX5_comes 12 = .ok (.getfield 50, 3) := by decide +kernel
theorem dX5_comes_15 : decode cX5_comes 15 = .ok (.iload_n 2, 1) := by decide +kernel
theorem dX5_comes_16 : decode cX5_comes 16 = .ok (.iaload, 1) := by decide +kernel
theorem dX5_comes_17 : decode cX5_comes 17 = .ok (.aload_n 0, 1) := by decide +kernel
theorem dX5_comes_18 : decode cX5_comes 18 = .ok (.getfield 53, 3) := by decide +kernel
theorem dX5_comes_21 : decode cX5_comes 21 = .ok (.iload_n 2, 1) := by decide +kernel
theorem dX5_comes_22 : decode cX5_comes 22 = .ok (.iaload, 1) := by decide +kernel
theorem dX5_comes_23 : decode cX5_comes 23 = .ok (.aload_n 0, 1) := by decide +kernel
theorem dX5_comes_24 : decode cX5_comes 24 = .ok (.getfield 56, 3) := by decide +kernel
theorem dX5_comes_27 : decode cX5_comes 27 = .ok (.iload_n 2, 1) := by decide +kernel
theorem dX5_comes_28 : decode cX5_comes 28 = .ok (.iaload, 1) := by decide +kernel
theorem dX5_comes_29 : decode cX5_comes 29 = .ok (.invokevirtual 114, 3) := by decide +kernel
theorem dX5_comes_32 : decode cX5_comes 32 = .ok (.goto 75, 3) := by decide +kernel
theorem dX5_comes_35 : decode cX5_comes 35 = .ok (.aload_n 0, 1) := by decide +kernel
theorem dX5_comes_36 : decode cX5_comes 36 = .ok (.getfield 47, 3) := by decide +kernel
theorem dX5_comes_39 : decode cX5_comes 39 = .ok (.iload_n 2, 1) := by decide +kernel
theorem dX5_comes_40 : decode cX5_comes 40 = .ok (.iaload, 1) := by decide +kernel
theorem dX5_comes_41 : decode cX5_comes 41 = .ok (.iconst 4, 1) := by decide +kernel
theorem dX5_comes_42 : decode cX5_comes 42 = .ok (.if_icmp .ne 13, 3) := by decide +kernel
theorem dX5_comes_45 : decode cX5_comes 45 = .ok (.aload_n 0, 1) := by decide +kernel
theorem dX5_comes_46 : decode cX5_comes 46 = .ok (.getfield 22, 3) := by decide +kernel
theorem dX5_comes_49 : decode cX5_comes 49 = .ok (.iload_n 1, 1) := by decide +kernel
theorem dX5_comes_50 : decode cX5_comes 50 = .ok (.iconst 0, 1) := by decide +kernel
theorem dX5_comes_51 : decode cX5_comes 51 = .ok (.iastore, 1) := by decide +kernel
theorem dX5_comes_52 : decode cX5_comes 52 = .ok (.goto 55, 3) := by decide +kernel
theorem dX5_comes_55 : decode cX5_comes 55 = .ok (.aload_n 0, 1) := by decide +kernel
theorem dX5_comes_56 : decode cX5_comes 56 = .ok (.getfield 22, 3) := by decide +kernel
theorem dX5_comes_59 : decode cX5_comes 59 = .ok (.iload_n 1, 1) := by decide +kernel
theorem dX5_comes_60 : decode cX5_comes 60 = .ok (.iaload, 1) := by decide +kernel
theorem dX5_comes_61 : decode cX5_comes 61 = .ok (.iconst 1, 1) := by decide +kernel
theorem dX5_comes_62 : decode cX5_comes 62 = .ok (.if_icmp .eq 13, 3) := by decide +kernel
theorem dX5_comes_65 : decode cX5_comes 65 = .ok (.aload_n 0, 1) := by decide +kernel
theorem dX5_comes_66 : decode cX5_comes 66 = .ok (.getfield 22, 3) := by decide +kernel
theorem dX5_comes_69 : decode cX5_comes 69 = .ok (.iload_n 1, 1) := by decide +kernel
theorem dX5_comes_70 : decode cX5_comes 70 = .ok (.iaload, 1) := by decide +kernel
theorem dX5_comes_71 : decode cX5_comes 71 = .ok (.iconst 3, 1) := by decide +kernel
theorem dX5_comes_72 : decode cX5_comes 72 = .ok (.if_icmp .ne 35, 3) := by decide +kernel
theorem dX5_comes_75 : decode cX5_comes 75 = .ok (.aload_n 0, 1) := by decide +kernel
theorem dX5_comes_76 : decode cX5_comes 76 = .ok (.getfield 50, 3) := by decide +kernel
theorem dX5_comes_79 : decode cX5_comes 79 = .ok (.iload_n 2, 1) := by decide +kernel
theorem dX5_comes_80 : decode cX5_comes 80 = .ok (.iaload, 1) := by decide +kernel
theorem dX5_comes_81 : decode cX5_comes 81 = .ok (.aload_n 0, 1) := by decide +kernel
theorem dX5_comes_82 : decode cX5_comes 82 = .ok (.getfield 25, 3) := by decide +kernel
theorem dX5_comes_85 : decode cX5_comes 85 = .ok (.iload_n 1, 1) := by decide +kernel
theorem dX5_comes_86 : decode cX5_comes 86 = .ok (.iaload, 1) := by decide +kernel
theorem dX5_comes_87 : decode cX5_comes 87 = .ok (.if_icmp .ne 20, 3) := by decide +kernel
theorem dX5_comes_90 : decode cX5_comes 90 = .ok (.aload_n 0, 1) := by decide +kernel
theorem dX5_comes_91 : decode cX5_comes 91 = .ok (.iload_n 1, 1) := by decide +kernel
theorem dX5_comes_92 : decode cX5_comes 92 = .ok (.aload_n 0, 1) := by decide +kernel
theorem dX5_comes_93 : decode cX5_comes 93 = .ok (.getfield 47, 3) := by decide +kernel
theorem dX5_comes_96 : decode cX5_comes 96 = .ok (.iload_n 2, 1) := by decide +kernel
theorem dX5_comes_97 : decode cX5_comes 97 = .ok (.iaload, 1) := by decide +kernel
theorem dX5_comes_98 : decode cX5_comes 98 = .ok (.aload_n 0, 1) := by decide +kernel
theorem dX5_comes_99 : decode cX5_comes 99 = .ok (.getfield 56, 3) := by decide +kernel
theorem dX5_comes_102 : decode cX5_comes 102 = .ok (.iload_n 2, 1) := by decide +kernel
theorem dX5_comes_103 : decode cX5_comes 103 = .ok (.iaload, 1) := by decide +kernel
theorem dX5_comes_104 : decode cX5_comes 104 = .ok (.invokevirtual 117, 3) := by decide +kernel
theorem dX5_comes_107 : decode cX5_comes 107 = .ok (.return_, 1) := by decide +kernel
theorem dX5_takes_0 : decode cX5_takes 0 = .ok (.sipush 1024, 3) := by decide +kernel
theorem dX5_takes_3 : decode cX5_takes 3 = .ok (.iload_n 1, 1) := by decide +kernel
theorem dX5_takes_4 : decode cX5_takes 4 = .ok (.imul, 1) := by decide +kernel
theorem dX5_takes_5 : decode cX5_takes 5 = .ok (.aload_n 0, 1) := by decide +kernel
theorem dX5_takes_6 : decode cX5_takes 6 = .ok (.getfield 41, 3) := by decide +kernel
theorem dX5_takes_9 : decode cX5_takes 9 = .ok (.iload_n 1, 1) := by decide +kernel
theorem dX5_takes_10 : decode cX5_takes 10 = .ok (.iaload, 1) := by decide +kernel
theorem dX5_takes_11 : decode cX5_takes 11 = .ok (.iadd, 1) := by decide +kernel
theorem dX5_takes_12 : decode cX5_takes 12 = .ok (.istore_n 2, 1) := by decide +kernel
theorem dX5_takes_13 : decode cX5_takes 13 = .ok (.aload_n 0, 1) := by decide +kernel
theorem dX5_takes_14 : decode cX5_takes 14 = .ok (.getfield 41, 3) := by decide +kernel
theorem dX5_takes_17 : decode cX5_takes 17 = .ok (.iload_n 1, 1) := by decide +kernel
theorem dX5_takes_18 : decode cX5_takes 18 = .ok (.aload_n 0, 1) := by decide +kernel
theorem dX5_takes_19 : decode cX5_takes 19 = .ok (.getfield 41, 3) := by decide +kernel
theorem dX5_takes_22 : decode cX5_takes 22 = .ok (.iload_n 1, 1) := by decide +kernel
theorem dX5_takes_23 : decode cX5_takes 23 = .ok (.iaload, 1) := by decide +kernel
theorem dX5_takes_24 : decode cX5_takes 24 = .ok (.iconst 1, 1) := by decide +kernel
theorem dX5_takes_25 : decode cX5_takes 25 = .ok (.iadd, 1) := by decide +kernel
theorem dX5_takes_26 : decode cX5_takes 26 = .ok (.sipush 1024, 3) := by decide +kernel
theorem dX5_takes_29 : decode cX5_takes 29 = .ok (.irem, 1) := by decide +kernel
theorem dX5_takes_30 : decode cX5_takes 30 = .ok (.iastore, 1) := by decide +kernel
theorem dX5_takes_31 : decode cX5_takes 31 = .ok (.aload_n 0, 1) := by decide +kernel
theorem dX5_takes_32 : decode cX5_takes 32 = .ok (.getfield 44, 3) := by decide +kernel
theorem dX5_takes_35 : decode cX5_takes 35 = .ok (.iload_n 1, 1) := by decide +kernel
theorem dX5_takes_36 : decode cX5_takes 36 = .ok (.dup2, 1) := by decide +kernel
theorem dX5_takes_37 : decode cX5_takes 37 = .ok (.iaload, 1) := by decide +kernel
theorem dX5_takes_38 : decode cX5_takes 38 = .ok (.iconst 1, 1) := by decide +kernel
theorem dX5_takes_39 : decode cX5_takes 39 = .ok (.isub, 1) := by decide +kernel
theorem dX5_takes_40 : decode cX5_takes 40 = .ok (.iastore, 1) := by decide +kernel
theorem dX5_takes_41 : decode cX5_takes 41 = .ok (.iload_n 2, 1) := by decide +kernel
theorem dX5_takes_42 : decode cX5_takes 42 = .ok (.ireturn, 1) := by decide +kernel
theorem dX5_open_0 : decode cX5_open 0 = .ok (.aload_n 0, 1) := by decide +kernel
theorem dX5_open_1 : decode cX5_open 1 = .ok (.iload_n 1, 1) := by decide +kernel
theorem dX5_open_2 : decode cX5_open 2 = .ok (.invokestatic 85, 3) := by decide +kernel
theorem dX5_open_5 : decode cX5_open 5 = .ok (.ifCond .ne 7, 3) := by decide +kernel
theorem dX5_open_8 : decode cX5_open 8 = .ok (.iconst 1, 1) := by decide +kernel
theorem dX5_open_9 : decode cX5_open 9 = .ok (.goto 17, 3) := by decide +kernel
theorem dX5_open_12 : decode cX5_open 12 = .ok (.aload_n 0, 1) := by decide +kernel
theorem dX5_open_13 : decode cX5_open 13 = .ok (.getfield 22, 3) := by decide +kernel
theorem dX5_open_16 : decode cX5_open 16 = .ok (.iload_n 1, 1) := by decide +kernel
theorem dX5_open_17 : decode cX5_open 17 = .ok (.iaload, 1) := by decide +kernel
theorem dX5_open_18 : decode cX5_open 18 = .ok (.ifCond .eq 7, 3) := by decide +kernel
theorem dX5_open_21 : decode cX5_open 21 = .ok (.iconst 2, 1) := by decide +kernel
theorem dX5_open_22 : decode cX5_open 22 = .ok (.goto 4, 3) := by decide +kernel
theorem dX5_open_25 : decode cX5_open 25 = .ok (.iconst 0, 1) := by decide +kernel
theorem dX5_open_26 : decode cX5_open 26 = .ok (.putfield 77, 3) := by decide +kernel
theorem dX5_open_29 : decode cX5_open 29 = .ok (.aload_n 0, 1) := by decide +kernel
theorem dX5_open_30 : decode cX5_open 30 = .ok (.getfield 77, 3) := by decide +kernel
theorem dX5_open_33 : decode cX5_open 33 = .ok (.ifCond .le 5, 3) := by decide +kernel
theorem dX5_open_36 : decode cX5_open 36 = .ok (.iconst 0, 1) := by decide +kernel
theorem dX5_open_37 : decode cX5_open 37 = .ok (.ireturn, 1) := by decide +kernel
theorem dX5_open_38 : decode cX5_open 38 = .ok (.bipush 6, 2) := by decide +kernel
theorem dX5_open_40 : decode cX5_open 40 = .ok (.iload_n 1, 1) := by decide +kernel
theorem dX5_open_41 : decode cX5_open 41 = .ok (.imul, 1) := by decide +kernel
theorem dX5_open_42 : decode cX5_open 42 = .ok (.istore_n 2, 1) := by decide +kernel
theorem dX5_open_43 : decode cX5_open 43 = .ok (.iload_n 2, 1) := by decide +kernel
theorem dX5_open_44 : decode cX5_open 44 = .ok (.bipush 6, 2) := by decide +kernel
theorem dX5_open_46 : decode cX5_open 46 = .ok (.iload_n 1, 1) := by decide +kernel
theorem dX5_open_47 : decode cX5_open 47 = .ok (.imul, 1) := by decide +kernel
theorem dX5_open_48 : decode cX5_open 48 = .ok (.bipush 6, 2) := by decide +kernel
theorem dX5_open_50 : decode cX5_open 50 = .ok (.iadd, 1) := by decide +kernel
theorem dX5_open_51 : decode cX5_open 51 = .ok (.if_icmp .ge 21, 3) := by decide +kernel
theorem dX5_open_54 : decode cX5_open 54 = .ok (.aload_n 0, 1) := by decide +kernel
theorem dX5_open_55 : decode cX5_open 55 = .ok (.getfield 16, 3) := by decide +kernel
theorem dX5_open_58 : decode cX5_open 58 = .ok (.iload_n 2, 1) := by decide +kernel
theorem dX5_open_59 : decode cX5_open 59 = .ok (.aload_n 0, 1) := by decide +kernel
theorem dX5_open_60 : decode cX5_open 60 = .ok (.getfield 9, 3) := by decide +kernel
theorem dX5_open_63 : decode cX5_open 63 = .ok (.iload_n 2, 1) := by decide +kernel
theorem dX5_open_64 : decode cX5_open 64 = .ok (.iaload, 1) := by decide +kernel
theorem dX5_open_65 : decode cX5_open 65 = .ok (.iastore, 1) := by decide +kernel
theorem dX5_open_66 : decode cX5_open 66 = .ok (.iinc 2 1, 3) := by decide +kernel
theorem dX5_open_69 : decode cX5_open 69 = .ok (.goto (-26), 3) := by decide +kernel
theorem dX5_open_72 : decode cX5_open 72 = .ok (.aload_n 0, 1) := by decide +kernel
theorem dX5_open_73 : decode cX5_open 73 = .ok (.getfield 22, 3) := by decide +kernel
theorem dX5_open_76 : decode cX5_open 76 = .ok (.iload_n 1, 1) := by decide +kernel
theorem dX5_open_77 : decode cX5_open 77 = .ok (.iconst 1, 1) := by decide +kernel
theorem dX5_open_78 : decode cX5_open 78 = .ok (.iastore, 1) := by decide +kernel
theorem dX5_open_79 : decode cX5_open 79 = .ok (.aload_n 0, 1) := by decide +kernel
theorem dX5_open_80 : decode cX5_open 80 = .ok (.getfield 28, 3) := by decide +kernel
theorem dX5_open_83 : decode cX5_open 83 = .ok (.iload_n 1, 1) := by decide +kernel
theorem dX5_open_84 : decode cX5_open 84 = .ok (.iconst 0, 1) := by decide +kernel
theorem dX5_open_85 : decode cX5_open 85 = .ok (.iastore, 1) := by decide +kernel
theorem dX5_open_86 : decode cX5_open 86 = .ok (.aload_n 0, 1) := by decide +kernel
theorem dX5_open_87 : decode cX5_open 87 = .ok (.iload_n 1, 1) := by decide +kernel
theorem dX5_open_88 : decode cX5_open 88 = .ok (.invokevirtual 107, 3) := by decide +kernel
theorem dX5_open_91 : decode cX5_open 91 = .ok (.pop, 1) := by decide +kernel
theorem dX5_open_92 : decode cX5_open 92 = .ok (.aload_n 0, 1) := by decide +kernel
theorem dX5_open_93 : decode cX5_open 93 = .ok (.getfield 25, 3) := by decide +kernel
theorem dX5_open_96 : decode cX5_open 96 = .ok (.iload_n 1, 1) := by decide +kernel
theorem dX5_open_97 : decode cX5_open 97 = .ok (.iaload, 1) := by decide +kernel
theorem dX5_open_98 : decode cX5_open 98 = .ok (.ireturn, 1) := by decide +kernel
theorem dX5_close_0 : decode cX5_close 0 = .ok (.aload_n 0, 1) := by decide +kernel
theorem dX5_close_1 : decode cX5_close 1 = .ok (.iload_n 1, 1) := by decide +kernel
theorem dX5_close_2 : decode cX5_close 2 = .ok (.invokestatic 85, 3) := by decide +kernel
theorem dX5_close_5 : decode cX5_close 5 = .ok (.ifCond .ne 7, 3) := by decide +kernel
theorem dX5_close_8 : decode cX5_close 8 = .ok (.iconst 1, 1) := by decide +kernel
theorem dX5_close_9 : decode cX5_close 9 = .ok (.goto 17, 3) := by decide +kernel
theorem dX5_close_12 : decode cX5_close 12 = .ok (.aload_n 0, 1) := by decide +kernel
theorem dX5_close_13 : decode cX5_close 13 = .ok (.getfield 22, 3) := by decide +kernel
theorem dX5_close_16 : decode cX5_close 16 = .ok (.iload_n 1, 1) := by decide +kernel
theorem dX5_close_17 : decode cX5_close 17 = .ok (.iaload, 1) := by decide +kernel
theorem dX5_close_18 : decode cX5_close 18 = .ok (.ifCond .ne 7, 3) := by decide +kernel
theorem dX5_close_21 : decode cX5_close 21 = .ok (.iconst 2, 1) := by decide +kernel
theorem dX5_close_22 : decode cX5_close 22 = .ok (.goto 4, 3) := by decide +kernel
theorem dX5_close_25 : decode cX5_close 25 = .ok (.iconst 0, 1) := by decide +kernel
theorem dX5_close_26 : decode cX5_close 26 = .ok (.putfield 77, 3) := by decide +kernel
theorem dX5_close_29 : decode cX5_close 29 = .ok (.aload_n 0, 1) := by decide +kernel
theorem dX5_close_30 : decode cX5_close 30 = .ok (.getfield 77, 3) := by decide +kernel
theorem dX5_close_33 : decode cX5_close 33 = .ok (.ifCond .le 5, 3) := by decide +kernel
theorem dX5_close_36 : decode cX5_close 36 = .ok (.iconst 0, 1) := by decide +kernel
theorem dX5_close_37 : decode cX5_close 37 = .ok (.ireturn, 1) := by decide +kernel
theorem dX5_close_38 : decode cX5_close 38 = .ok (.aload_n 0, 1) := by decide +kernel
theorem dX5_close_39 : decode cX5_close 39 = .ok (.getfield 22, 3) := by decide +kernel
theorem dX5_close_42 : decode cX5_close 42 = .ok (.iload_n 1, 1) := by decide +kernel
theorem dX5_close_43 : decode cX5_close 43 = .ok (.iaload, 1) := by decide +kernel
theorem dX5_close_44 : decode cX5_close 44 = .ok (.istore_n 2, 1) := by decide +kernel
theorem dX5_close_45 : decode cX5_close 45 = .ok (.aload_n 0, 1) := by decide +kernel
theorem dX5_close_46 : decode cX5_close 46 = .ok (.iload_n 1, 1) := by decide +kernel
theorem dX5_close_47 : decode cX5_close 47 = .ok (.iconst 4, 1) := by decide +kernel
theorem dX5_close_48 : decode cX5_close 48 = .ok (.iconst 0, 1) := by decide +kernel
theorem dX5_close_49 : decode cX5_close 49 = .ok (.iconst 0, 1) := by decide +kernel
theorem dX5_close_50 : decode cX5_close 50 = .ok (.invokevirtual 96, 3) := by decide +kernel
theorem dX5_close_53 : decode cX5_close 53 = .ok (.aload_n 0, 1) := by decide +kernel
theorem dX5_close_54 : decode cX5_close 54 = .ok (.getfield 22, 3) := by decide +kernel
theorem dX5_close_57 : decode cX5_close 57 = .ok (.iload_n 1, 1) := by decide +kernel
theorem dX5_close_58 : decode cX5_close 58 = .ok (.iconst 0, 1) := by decide +kernel
theorem dX5_close_59 : decode cX5_close 59 = .ok (.iastore, 1) := by decide +kernel
theorem dX5_close_60 : decode cX5_close 60 = .ok (.iload_n 2, 1) := by decide +kernel
theorem dX5_close_61 : decode cX5_close 61 = .ok (.ireturn, 1) := by decide +kernel
theorem dX5_asksFrame_0 : decode cX5_asksFrame 0 = .ok (.aload_n 0, 1) := by decide +kernel
theorem dX5_asksFrame_1 : decode cX5_asksFrame 1 = .ok (.iload_n 1, 1) := by decide +kernel
theorem dX5_asksFrame_2 : decode cX5_asksFrame 2 = .ok (.invokestatic 85, 3) := by decide +kernel
theorem dX5_asksFrame_5 : decode cX5_asksFrame 5 = .ok (.ifCond .ne 7, 3) := by decide +kernel
theorem dX5_asksFrame_8 : decode cX5_asksFrame 8 = .ok (.iconst 1, 1) := by decide +kernel
theorem dX5_asksFrame_9 : decode cX5_asksFrame 9 = .ok (.goto 17, 3) := by decide +kernel
theorem dX5_asksFrame_12 : decode cX5_asksFrame 12 = .ok (.aload_n 0, 1) := by decide +kernel
theorem dX5_asksFrame_13 : decode cX5_asksFrame 13 = .ok (.getfield 44, 3) := by decide +kernel
theorem dX5_asksFrame_16 : decode cX5_asksFrame 16 = .ok (.iload_n 1, 1) := by decide +kernel
theorem dX5_asksFrame_17 : decode cX5_asksFrame 17 = .ok (.iaload, 1) := by decide +kernel
theorem dX5_asksFrame_18 : decode cX5_asksFrame 18 = .ok (.ifCond .ne 7, 3) := by decide +kernel
theorem dX5_asksFrame_21 : decode cX5_asksFrame 21 = .ok (.iconst 2, 1) := by decide +kernel
theorem dX5_asksFrame_22 : decode cX5_asksFrame 22 = .ok (.goto 4, 3) := by decide +kernel
theorem dX5_asksFrame_25 : decode cX5_asksFrame 25 = .ok (.iconst 0, 1) := by decide +kernel
theorem dX5_asksFrame_26 : decode cX5_asksFrame 26 = .ok (.putfield 77, 3) := by decide +kernel
theorem dX5_asksFrame_29 : decode cX5_asksFrame 29 = .ok (.aload_n 0, 1) := by decide +kernel
theorem dX5_asksFrame_30 : decode cX5_asksFrame 30 = .ok (.getfield 77, 3) := by decide +kernel
theorem dX5_asksFrame_33 : decode cX5_asksFrame 33 = .ok (.ifCond .ne 7, 3) := by decide +kernel
theorem dX5_asksFrame_36 : decode cX5_asksFrame 36 = .ok (.iconst 1, 1) := by decide +kernel
theorem dX5_asksFrame_37 : decode cX5_asksFrame 37 = .ok (.goto 4, 3) := by decide +kernel
theorem dX5_asksFrame_40 : decode cX5_asksFrame 40 = .ok (.iconst 0, 1) := by decide +kernel
theorem dX5_asksFrame_41 : decode cX5_asksFrame 41 = .ok (.ireturn, 1) := by decide +kernel
theorem dX5_deliver_0 : decode cX5_deliver 0 = .ok (.aload_n 0, 1) := by decide +kernel
theorem dX5_deliver_1 : decode cX5_deliver 1 = .ok (.iload_n 1, 1) := by decide +kernel
theorem dX5_deliver_2 : decode cX5_deliver 2 = .ok (.invokevirtual 120, 3) := by decide +kernel
theorem dX5_deliver_5 : decode cX5_deliver 5 = .ok (.ifCond .ne 5, 3) := by decide +kernel
theorem dX5_deliver_8 : decode cX5_deliver 8 = .ok (.iconst 0, 1) := by decide +kernel
theorem dX5_deliver_9 : decode cX5_deliver 9 = .ok (.ireturn, 1) := by decide +kernel
theorem dX5_deliver_10 : decode cX5_deliver 10 = .ok (.aload_n 0, 1) := by decide +kernel
theorem dX5_deliver_11 : decode cX5_deliver 11 = .ok (.iload_n 1, 1) := by decide +kernel
theorem dX5_deliver_12 : decode cX5_deliver 12 = .ok (.invokevirtual 123, 3) := by decide +kernel
theorem dX5_deliver_15 : decode cX5_deliver 15 = .ok (.istore_n 2, 1) := by decide +kernel
theorem dX5_deliver_16 : decode cX5_deliver 16 = .ok (.aload_n 0, 1) := by decide +kernel
theorem dX5_deliver_17 : decode cX5_deliver 17 = .ok (.iconst 1, 1) := by decide +kernel
theorem dX5_deliver_18 : decode cX5_deliver 18 = .ok (.iload_n 1, 1) := by decide +kernel
theorem dX5_deliver_19 : decode cX5_deliver 19 = .ok (.isub, 1) := by decide +kernel
theorem dX5_deliver_20 : decode cX5_deliver 20 = .ok (.iload_n 2, 1) := by decide +kernel
theorem dX5_deliver_21 : decode cX5_deliver 21 = .ok (.invokevirtual 126, 3) := by decide +kernel
theorem dX5_deliver_24 : decode cX5_deliver 24 = .ok (.aload_n 0, 1) := by decide +kernel
theorem dX5_deliver_25 : decode cX5_deliver 25 = .ok (.getfield 47, 3) := by decide +kernel
theorem dX5_deliver_28 : decode cX5_deliver 28 = .ok (.iload_n 2, 1) := by decide +kernel
theorem dX5_deliver_29 : decode cX5_deliver 29 = .ok (.iaload, 1) := by decide +kernel
theorem dX5_deliver_30 : decode cX5_deliver 30 = .ok (.ireturn, 1) := by decide +kernel
theorem dX5_lose_0 : decode cX5_lose 0 = .ok (.aload_n 0, 1) := by decide +kernel
theorem dX5_lose_1 : decode cX5_lose 1 = .ok (.iload_n 1, 1) := by decide +kernel
theorem dX5_lose_2 : decode cX5_lose 2 = .ok (.invokevirtual 120, 3) := by decide +kernel
theorem dX5_lose_5 : decode cX5_lose 5 = .ok (.ifCond .ne 5, 3) := by decide +kernel
theorem dX5_lose_8 : decode cX5_lose 8 = .ok (.iconst 0, 1) := by decide +kernel
theorem dX5_lose_9 : decode cX5_lose 9 = .ok (.ireturn, 1) := by decide +kernel
theorem dX5_lose_10 : decode cX5_lose 10 = .ok (.aload_n 0, 1) := by decide +kernel
theorem dX5_lose_11 : decode cX5_lose 11 = .ok (.getfield 38, 3) := by decide +kernel
theorem dX5_lose_14 : decode cX5_lose 14 = .ok (.iload_n 1, 1) := by decide +kernel
theorem dX5_lose_15 : decode cX5_lose 15 = .ok (.dup2, 1) := by decide +kernel
theorem dX5_lose_16 : decode cX5_lose 16 = .ok (.iaload, 1) := by decide +kernel
theorem dX5_lose_17 : decode cX5_lose 17 = .ok (.iconst 1, 1) := by decide +kernel
theorem dX5_lose_18 : decode cX5_lose 18 = .ok (.iadd, 1) := by decide +kernel
theorem dX5_lose_19 : decode cX5_lose 19 = .ok (.iastore, 1) := by decide +kernel
theorem dX5_lose_20 : decode cX5_lose 20 = .ok (.aload_n 0, 1) := by decide +kernel
theorem dX5_lose_21 : decode cX5_lose 21 = .ok (.getfield 47, 3) := by decide +kernel
theorem dX5_lose_24 : decode cX5_lose 24 = .ok (.aload_n 0, 1) := by decide +kernel
theorem dX5_lose_25 : decode cX5_lose 25 = .ok (.iload_n 1, 1) := by decide +kernel
theorem dX5_lose_26 : decode cX5_lose 26 = .ok (.invokevirtual 123, 3) := by decide +kernel
theorem dX5_lose_29 : decode cX5_lose 29 = .ok (.iaload, 1) := by decide +kernel
theorem dX5_lose_30 : decode cX5_lose 30 = .ok (.ireturn, 1) := by decide +kernel
theorem dX5_loop_0 : decode cX5_loop 0 = .ok (.aload_n 0, 1) := by decide +kernel
theorem dX5_loop_1 : decode cX5_loop 1 = .ok (.iload_n 1, 1) := by decide +kernel
theorem dX5_loop_2 : decode cX5_loop 2 = .ok (.invokevirtual 120, 3) := by decide +kernel
theorem dX5_loop_5 : decode cX5_loop 5 = .ok (.ifCond .ne 5, 3) := by decide +kernel
theorem dX5_loop_8 : decode cX5_loop 8 = .ok (.iconst 0, 1) := by decide +kernel
theorem dX5_loop_9 : decode cX5_loop 9 = .ok (.ireturn, 1) := by decide +kernel
theorem dX5_loop_10 : decode cX5_loop 10 = .ok (.aload_n 0, 1) := by decide +kernel
theorem dX5_loop_11 : decode cX5_loop 11 = .ok (.getfield 38, 3) := by decide +kernel
theorem dX5_loop_14 : decode cX5_loop 14 = .ok (.iload_n 1, 1) := by decide +kernel
theorem dX5_loop_15 : decode cX5_loop 15 = .ok (.dup2, 1) := by decide +kernel
theorem dX5_loop_16 : decode cX5_loop 16 = .ok (.iaload, 1) := by decide +kernel
theorem dX5_loop_17 : decode cX5_loop 17 = .ok (.iconst 1, 1) := by decide +kernel
theorem dX5_loop_18 : decode cX5_loop 18 = .ok (.iadd, 1) := by decide +kernel
theorem dX5_loop_19 : decode cX5_loop 19 = .ok (.iastore, 1) := by decide +kernel
theorem dX5_loop_20 : decode cX5_loop 20 = .ok (.aload_n 0, 1) := by decide +kernel
theorem dX5_loop_21 : decode cX5_loop 21 = .ok (.iload_n 1, 1) := by decide +kernel
theorem dX5_loop_22 : decode cX5_loop 22 = .ok (.invokevirtual 123, 3) := by decide +kernel
theorem dX5_loop_25 : decode cX5_loop 25 = .ok (.istore_n 2, 1) := by decide +kernel
theorem dX5_loop_26 : decode cX5_loop 26 = .ok (.aload_n 0, 1) := by decide +kernel
theorem dX5_loop_27 : decode cX5_loop 27 = .ok (.iload_n 1, 1) := by decide +kernel
theorem dX5_loop_28 : decode cX5_loop 28 = .ok (.iload_n 2, 1) := by decide +kernel
theorem dX5_loop_29 : decode cX5_loop 29 = .ok (.invokevirtual 126, 3) := by decide +kernel
theorem dX5_loop_32 : decode cX5_loop 32 = .ok (.aload_n 0, 1) := by decide +kernel
theorem dX5_loop_33 : decode cX5_loop 33 = .ok (.getfield 47, 3) := by decide +kernel
theorem dX5_loop_36 : decode cX5_loop 36 = .ok (.iload_n 2, 1) := by decide +kernel
theorem dX5_loop_37 : decode cX5_loop 37 = .ok (.iaload, 1) := by decide +kernel
theorem dX5_loop_38 : decode cX5_loop 38 = .ok (.ireturn, 1) := by decide +kernel
theorem dX5_goesBy_0 : decode cX5_goesBy 0 = .ok (.aload_n 0, 1) := by decide +kernel
theorem dX5_goesBy_1 : decode cX5_goesBy 1 = .ok (.getfield 22, 3) := by decide +kernel
theorem dX5_goesBy_4 : decode cX5_goesBy 4 = .ok (.iload_n 1, 1) := by decide +kernel
theorem dX5_goesBy_5 : decode cX5_goesBy 5 = .ok (.iaload, 1) := by decide +kernel
theorem dX5_goesBy_6 : decode cX5_goesBy 6 = .ok (.ifCond .eq 13, 3) := by decide +kernel
theorem dX5_goesBy_9 : decode cX5_goesBy 9 = .ok (.aload_n 0, 1) := by decide +kernel
theorem dX5_goesBy_10 : decode cX5_goesBy 10 = .ok (.getfield 22, 3) := by decide +kernel
theorem dX5_goesBy_13 : decode cX5_goesBy 13 = .ok (.iload_n 1, 1) := by decide +kernel
theorem dX5_goesBy_14 : decode cX5_goesBy 14 = .ok (.iaload, 1) := by decide +kernel
theorem dX5_goesBy_15 : decode cX5_goesBy 15 = .ok (.iconst 4, 1) := by decide +kernel
theorem dX5_goesBy_16 : decode cX5_goesBy 16 = .ok (.if_icmp .ne 5, 3) := by decide +kernel
theorem dX5_goesBy_19 : decode cX5_goesBy 19 = .ok (.iconst 0, 1) := by decide +kernel
theorem dX5_goesBy_20 : decode cX5_goesBy 20 = .ok (.ireturn, 1) := by decide +kernel
theorem dX5_goesBy_21 : decode cX5_goesBy 21 = .ok (.aload_n 0, 1) := by decide +kernel
theorem dX5_goesBy_22 : decode cX5_goesBy 22 = .ok (.getfield 31, 3) := by decide +kernel
theorem dX5_goesBy_25 : decode cX5_goesBy 25 = .ok (.iload_n 1, 1) := by decide +kernel
theorem dX5_goesBy_26 : decode cX5_goesBy 26 = .ok (.dup2, 1) := by decide +kernel
theorem dX5_goesBy_27 : decode cX5_goesBy 27 = .ok (.iaload, 1) := by decide +kernel
theorem dX5_goesBy_28 : decode cX5_goesBy 28 = .ok (.iconst 1, 1) := by decide +kernel
theorem dX5_goesBy_29 : decode cX5_goesBy 29 = .ok (.isub, 1) := by decide +kernel
theorem dX5_goesBy_30 : decode cX5_goesBy 30 = .ok (.iastore, 1) := by decide +kernel
theorem dX5_goesBy_31 : decode cX5_goesBy 31 = .ok (.aload_n 0, 1) := by decide +kernel
theorem dX5_goesBy_32 : decode cX5_goesBy 32 = .ok (.getfield 31, 3) := by decide +kernel
theorem dX5_goesBy_35 : decode cX5_goesBy 35 = .ok (.iload_n 1, 1) := by decide +kernel
theorem dX5_goesBy_36 : decode cX5_goesBy 36 = .ok (.iaload, 1) := by decide +kernel
theorem dX5_goesBy_37 : decode cX5_goesBy 37 = .ok (.ifCond .le 5, 3) := by decide +kernel
theorem dX5_goesBy_40 : decode cX5_goesBy 40 = .ok (.iconst 0, 1) := by decide +kernel
theorem dX5_goesBy_41 : decode cX5_goesBy 41 = .ok (.ireturn, 1) := by decide +kernel
theorem dX5_goesBy_42 : decode cX5_goesBy 42 = .ok (.aload_n 0, 1) := by decide +kernel
theorem dX5_goesBy_43 : decode cX5_goesBy 43 = .ok (.getfield 22, 3) := by decide +kernel
theorem dX5_goesBy_46 : decode cX5_goesBy 46 = .ok (.iload_n 1, 1) := by decide +kernel
theorem dX5_goesBy_47 : decode cX5_goesBy 47 = .ok (.aload_n 0, 1) := by decide +kernel
theorem dX5_goesBy_48 : decode cX5_goesBy 48 = .ok (.getfield 22, 3) := by decide +kernel
theorem dX5_goesBy_51 : decode cX5_goesBy 51 = .ok (.iload_n 1, 1) := by decide +kernel
theorem dX5_goesBy_52 : decode cX5_goesBy 52 = .ok (.iaload, 1) := by decide +kernel
theorem dX5_goesBy_53 : decode cX5_goesBy 53 = .ok (.iconst 2, 1) := by decide +kernel
theorem dX5_goesBy_54 : decode cX5_goesBy 54 = .ok (.if_icmp .ne 7, 3) := by decide +kernel
theorem dX5_goesBy_57 : decode cX5_goesBy 57 = .ok (.iconst 1, 1) := by decide +kernel
theorem dX5_goesBy_58 : decode cX5_goesBy 58 = .ok (.goto 9, 3) := by decide +kernel
theorem dX5_goesBy_61 : decode cX5_goesBy 61 = .ok (.aload_n 0, 1) := by decide +kernel
theorem dX5_goesBy_62 : decode cX5_goesBy 62 = .ok (.getfield 22, 3) := by decide +kernel
theorem dX5_goesBy_65 : decode cX5_goesBy 65 = .ok (.iload_n 1, 1) := by decide +kernel
theorem dX5_goesBy_66 : decode cX5_goesBy 66 = .ok (.iaload, 1) := by decide +kernel
theorem dX5_goesBy_67 : decode cX5_goesBy 67 = .ok (.iastore, 1) := by decide +kernel
theorem dX5_goesBy_68 : decode cX5_goesBy 68 = .ok (.aload_n 0, 1) := by decide +kernel
theorem dX5_goesBy_69 : decode cX5_goesBy 69 = .ok (.iload_n 1, 1) := by decide +kernel
theorem dX5_goesBy_70 : decode cX5_goesBy 70 = .ok (.invokevirtual 107, 3) := by decide +kernel
theorem dX5_goesBy_73 : decode cX5_goesBy 73 = .ok (.ifCond .eq 7, 3) := by decide +kernel
theorem dX5_goesBy_76 : decode cX5_goesBy 76 = .ok (.iconst 1, 1) := by decide +kernel
theorem dX5_goesBy_77 : decode cX5_goesBy 77 = .ok (.goto 4, 3) := by decide +kernel
theorem dX5_goesBy_80 : decode cX5_goesBy 80 = .ok (.iconst 0, 1) := by decide +kernel
theorem dX5_goesBy_81 : decode cX5_goesBy 81 = .ok (.ireturn, 1) := by decide +kernel
theorem dX5_pass_0 : decode cX5_pass 0 = .ok (.aload_n 0, 1) := by decide +kernel
theorem dX5_pass_1 : decode cX5_pass 1 = .ok (.iload_n 1, 1) := by decide +kernel
theorem dX5_pass_2 : decode cX5_pass 2 = .ok (.iconst 1, 1) := by decide +kernel
theorem dX5_pass_3 : decode cX5_pass 3 = .ok (.bipush 50, 2) := by decide +kernel
theorem dX5_pass_5 : decode cX5_pass 5 = .ok (.invokestatic 81, 3) := by decide +kernel
theorem dX5_pass_8 : decode cX5_pass 8 = .ok (.ifCond .eq 7, 3) := by decide +kernel
theorem dX5_pass_11 : decode cX5_pass 11 = .ok (.iconst 0, 1) := by decide +kernel
theorem dX5_pass_12 : decode cX5_pass 12 = .ok (.goto 4, 3) := by decide +kernel
theorem dX5_pass_15 : decode cX5_pass 15 = .ok (.iconst 1, 1) := by decide +kernel
theorem dX5_pass_16 : decode cX5_pass 16 = .ok (.putfield 77, 3) := by decide +kernel
theorem dX5_pass_19 : decode cX5_pass 19 = .ok (.iconst 0, 1) := by decide +kernel
theorem dX5_pass_20 : decode cX5_pass 20 = .ok (.istore_n 2, 1) := by decide +kernel
theorem dX5_pass_21 : decode cX5_pass 21 = .ok (.iconst 0, 1) := by decide +kernel
theorem dX5_pass_22 : decode cX5_pass 22 = .ok (.istore_n 3, 1) := by decide +kernel
theorem dX5_pass_23 : decode cX5_pass 23 = .ok (.iload_n 3, 1) := by decide +kernel
theorem dX5_pass_24 : decode cX5_pass 24 = .ok (.iload_n 1, 1) := by decide +kernel
theorem dX5_pass_25 : decode cX5_pass 25 = .ok (.if_icmp .ge 32, 3) := by decide +kernel
theorem dX5_pass_28 : decode cX5_pass 28 = .ok (.aload_n 0, 1) := by decide +kernel
theorem dX5_pass_29 : decode cX5_pass 29 = .ok (.getfield 77, 3) := by decide +kernel
theorem dX5_pass_32 : decode cX5_pass 32 = .ok (.ifCond .ne 25, 3) := by decide +kernel
theorem dX5_pass_35 : decode cX5_pass 35 = .ok (.iload_n 2, 1) := by decide +kernel
theorem dX5_pass_36 : decode cX5_pass 36 = .ok (.aload_n 0, 1) := by decide +kernel
theorem dX5_pass_37 : decode cX5_pass 37 = .ok (.iconst 0, 1) := by decide +kernel
theorem dX5_pass_38 : decode cX5_pass 38 = .ok (.invokevirtual 130, 3) := by decide +kernel
theorem dX5_pass_41 : decode cX5_pass 41 = .ok (.iadd, 1) := by decide +kernel
theorem dX5_pass_42 : decode cX5_pass 42 = .ok (.istore_n 2, 1) := by decide +kernel
theorem dX5_pass_43 : decode cX5_pass 43 = .ok (.iload_n 2, 1) := by decide +kernel
theorem dX5_pass_44 : decode cX5_pass 44 = .ok (.aload_n 0, 1) := by decide +kernel
theorem dX5_pass_45 : decode cX5_pass 45 = .ok (.iconst 1, 1) := by decide +kernel
theorem dX5_pass_46 : decode cX5_pass 46 = .ok (.invokevirtual 130, 3) := by decide +kernel
theorem dX5_pass_49 : decode cX5_pass 49 = .ok (.iadd, 1) := by decide +kernel
theorem dX5_pass_50 : decode cX5_pass 50 = .ok (.istore_n 2, 1) := by decide +kernel
theorem dX5_pass_51 : decode cX5_pass 51 = .ok (.iinc 3 1, 3) := by decide +kernel
theorem dX5_pass_54 : decode cX5_pass 54 = .ok (.goto (-31), 3) := by decide +kernel
theorem dX5_pass_57 : decode cX5_pass 57 = .ok (.iload_n 2, 1) := by decide +kernel
theorem dX5_pass_58 : decode cX5_pass 58 = .ok (.ireturn, 1) := by decide +kernel
theorem dX5_asksEnd_0 : decode cX5_asksEnd 0 = .ok (.aload_n 0, 1) := by decide +kernel
theorem dX5_asksEnd_1 : decode cX5_asksEnd 1 = .ok (.iload_n 1, 1) := by decide +kernel
theorem dX5_asksEnd_2 : decode cX5_asksEnd 2 = .ok (.invokestatic 85, 3) := by decide +kernel
theorem dX5_asksEnd_5 : decode cX5_asksEnd 5 = .ok (.ifCond .eq 7, 3) := by decide +kernel
theorem dX5_asksEnd_8 : decode cX5_asksEnd 8 = .ok (.iconst 0, 1) := by decide +kernel
theorem dX5_asksEnd_9 : decode cX5_asksEnd 9 = .ok (.goto 4, 3) := by decide +kernel
theorem dX5_asksEnd_12 : decode cX5_asksEnd 12 = .ok (.iconst 1, 1) := by decide +kernel
theorem dX5_asksEnd_13 : decode cX5_asksEnd 13 = .ok (.putfield 77, 3) := by decide +kernel
theorem dX5_asksEnd_16 : decode cX5_asksEnd 16 = .ok (.aload_n 0, 1) := by decide +kernel
theorem dX5_asksEnd_17 : decode cX5_asksEnd 17 = .ok (.getfield 77, 3) := by decide +kernel
theorem dX5_asksEnd_20 : decode cX5_asksEnd 20 = .ok (.ifCond .ne 7, 3) := by decide +kernel
theorem dX5_asksEnd_23 : decode cX5_asksEnd 23 = .ok (.iconst 1, 1) := by decide +kernel
theorem dX5_asksEnd_24 : decode cX5_asksEnd 24 = .ok (.goto 4, 3) := by decide +kernel
theorem dX5_asksEnd_27 : decode cX5_asksEnd 27 = .ok (.iconst 0, 1) := by decide +kernel
theorem dX5_asksEnd_28 : decode cX5_asksEnd 28 = .ok (.ireturn, 1) := by decide +kernel
theorem dX5_stateOf_0 : decode cX5_stateOf 0 = .ok (.aload_n 0, 1) := by decide +kernel
theorem dX5_stateOf_1 : decode cX5_stateOf 1 = .ok (.iload_n 1, 1) := by decide +kernel
theorem dX5_stateOf_2 : decode cX5_stateOf 2 = .ok (.invokevirtual 133, 3) := by decide +kernel
theorem dX5_stateOf_5 : decode cX5_stateOf 5 = .ok (.ifCond .eq 12, 3) := by decide +kernel
theorem dX5_stateOf_8 : decode cX5_stateOf 8 = .ok (.aload_n 0, 1) := by decide +kernel
theorem dX5_stateOf_9 : decode cX5_stateOf 9 = .ok (.getfield 22, 3) := by decide +kernel
theorem dX5_stateOf_12 : decode cX5_stateOf 12 = .ok (.iload_n 1, 1) := by decide +kernel
theorem dX5_stateOf_13 : decode cX5_stateOf 13 = .ok (.iaload, 1) := by decide +kernel
theorem dX5_stateOf_14 : decode cX5_stateOf 14 = .ok (.goto 4, 3) := by decide +kernel
theorem dX5_stateOf_17 : decode cX5_stateOf 17 = .ok (.iconst 0, 1) := by decide +kernel
theorem dX5_stateOf_18 : decode cX5_stateOf 18 = .ok (.ireturn, 1) := by decide +kernel
theorem dX5_asked_0 : decode cX5_asked 0 = .ok (.aload_n 0, 1) := by decide +kernel
theorem dX5_asked_1 : decode cX5_asked 1 = .ok (.iload_n 1, 1) := by decide +kernel
theorem dX5_asked_2 : decode cX5_asked 2 = .ok (.invokestatic 85, 3) := by decide +kernel
theorem dX5_asked_5 : decode cX5_asked 5 = .ok (.ifCond .eq 14, 3) := by decide +kernel
theorem dX5_asked_8 : decode cX5_asked 8 = .ok (.iload_n 2, 1) := by decide +kernel
theorem dX5_asked_9 : decode cX5_asked 9 = .ok (.invokestatic 89, 3) := by decide +kernel
theorem dX5_asked_12 : decode cX5_asked 12 = .ok (.ifCond .eq 7, 3) := by decide +kernel
theorem dX5_asked_15 : decode cX5_asked 15 = .ok (.iconst 0, 1) := by decide +kernel
theorem dX5_asked_16 : decode cX5_asked 16 = .ok (.goto 4, 3) := by decide +kernel
theorem dX5_asked_19 : decode cX5_asked 19 = .ok (.iconst 1, 1) := by decide +kernel
theorem dX5_asked_20 : decode cX5_asked 20 = .ok (.putfield 77, 3) := by decide +kernel
theorem dX5_asked_23 : decode cX5_asked 23 = .ok (.aload_n 0, 1) := by decide +kernel
theorem dX5_asked_24 : decode cX5_asked 24 = .ok (.getfield 77, 3) := by decide +kernel
theorem dX5_asked_27 : decode cX5_asked 27 = .ok (.ifCond .le 7, 3) := by decide +kernel
theorem dX5_asked_30 : decode cX5_asked 30 = .ok (.iconst 0, 1) := by decide +kernel
theorem dX5_asked_31 : decode cX5_asked 31 = .ok (.goto 14, 3) := by decide +kernel
theorem dX5_asked_34 : decode cX5_asked 34 = .ok (.aload_n 0, 1) := by decide +kernel
theorem dX5_asked_35 : decode cX5_asked 35 = .ok (.getfield 16, 3) := by decide +kernel
theorem dX5_asked_38 : decode cX5_asked 38 = .ok (.bipush 6, 2) := by decide +kernel
theorem dX5_asked_40 : decode cX5_asked 40 = .ok (.iload_n 1, 1) := by decide +kernel
theorem dX5_asked_41 : decode cX5_asked 41 = .ok (.imul, 1) := by decide +kernel
theorem dX5_asked_42 : decode cX5_asked 42 = .ok (.iload_n 2, 1) := by decide +kernel
theorem dX5_asked_43 : decode cX5_asked 43 = .ok (.iadd, 1) := by decide +kernel
theorem dX5_asked_44 : decode cX5_asked 44 = .ok (.iaload, 1) := by decide +kernel
theorem dX5_asked_45 : decode cX5_asked 45 = .ok (.ireturn, 1) := by decide +kernel
theorem dX5_requests_0 : decode cX5_requests 0 = .ok (.aload_n 0, 1) := by decide +kernel
theorem dX5_requests_1 : decode cX5_requests 1 = .ok (.iload_n 1, 1) := by decide +kernel
theorem dX5_requests_2 : decode cX5_requests 2 = .ok (.invokevirtual 133, 3) := by decide +kernel
theorem dX5_requests_5 : decode cX5_requests 5 = .ok (.ifCond .eq 12, 3) := by decide +kernel
theorem dX5_requests_8 : decode cX5_requests 8 = .ok (.aload_n 0, 1) := by decide +kernel
theorem dX5_requests_9 : decode cX5_requests 9 = .ok (.getfield 28, 3) := by decide +kernel
theorem dX5_requests_12 : decode cX5_requests 12 = .ok (.iload_n 1, 1) := by decide +kernel
theorem dX5_requests_13 : decode cX5_requests 13 = .ok (.iaload, 1) := by decide +kernel
theorem dX5_requests_14 : decode cX5_requests 14 = .ok (.goto 4, 3) := by decide +kernel
theorem dX5_requests_17 : decode cX5_requests 17 = .ok (.iconst 0, 1) := by decide +kernel
theorem dX5_requests_18 : decode cX5_requests 18 = .ok (.ireturn, 1) := by decide +kernel
theorem dX5_isLooped_0 : decode cX5_isLooped 0 = .ok (.aload_n 0, 1) := by decide +kernel
theorem dX5_isLooped_1 : decode cX5_isLooped 1 = .ok (.iload_n 1, 1) := by decide +kernel
theorem dX5_isLooped_2 : decode cX5_isLooped 2 = .ok (.invokevirtual 133, 3) := by decide +kernel
theorem dX5_isLooped_5 : decode cX5_isLooped 5 = .ok (.ifCond .eq 16, 3) := by decide +kernel
theorem dX5_isLooped_8 : decode cX5_isLooped 8 = .ok (.aload_n 0, 1) := by decide +kernel
theorem dX5_isLooped_9 : decode cX5_isLooped 9 = .ok (.getfield 34, 3) := by decide +kernel
theorem dX5_isLooped_12 : decode cX5_isLooped 12 = .ok (.iload_n 1, 1) := by decide +kernel
theorem dX5_isLooped_13 : decode cX5_isLooped 13 = .ok (.baload, 1) := by decide +kernel
theorem dX5_isLooped_14 : decode cX5_isLooped 14 = .ok (.ifCond .eq 7, 3) := by decide +kernel
theorem dX5_isLooped_17 : decode cX5_isLooped 17 = .ok (.iconst 1, 1) := by decide +kernel
theorem dX5_isLooped_18 : decode cX5_isLooped 18 = .ok (.goto 4, 3) := by decide +kernel
theorem dX5_isLooped_21 : decode cX5_isLooped 21 = .ok (.iconst 0, 1) := by decide +kernel
theorem dX5_isLooped_22 : decode cX5_isLooped 22 = .ok (.ireturn, 1) := by decide +kernel
theorem dX5_underWay_0 : decode cX5_underWay 0 = .ok (.aload_n 0, 1) := by decide +kernel
theorem dX5_underWay_1 : decode cX5_underWay 1 = .ok (.iload_n 1, 1) := by decide +kernel
theorem dX5_underWay_2 : decode cX5_underWay 2 = .ok (.invokevirtual 133, 3) := by decide +kernel
theorem dX5_underWay_5 : decode cX5_underWay 5 = .ok (.ifCond .eq 12, 3) := by decide +kernel
theorem dX5_underWay_8 : decode cX5_underWay 8 = .ok (.aload_n 0, 1) := by decide +kernel
theorem dX5_underWay_9 : decode cX5_underWay 9 = .ok (.getfield 44, 3) := by decide +kernel
theorem dX5_underWay_12 : decode cX5_underWay 12 = .ok (.iload_n 1, 1) := by decide +kernel
theorem dX5_underWay_13 : decode cX5_underWay 13 = .ok (.iaload, 1) := by decide +kernel
theorem dX5_underWay_14 : decode cX5_underWay 14 = .ok (.goto 4, 3) := by decide +kernel
theorem dX5_underWay_17 : decode cX5_underWay 17 = .ok (.iconst 0, 1) := by decide +kernel
theorem dX5_underWay_18 : decode cX5_underWay 18 = .ok (.ireturn, 1) := by decide +kernel
theorem dX5_missed_0 : decode cX5_missed 0 = .ok (.aload_n 0, 1) := by decide +kernel
theorem dX5_missed_1 : decode cX5_missed 1 = .ok (.iload_n 1, 1) := by decide +kernel
theorem dX5_missed_2 : decode cX5_missed 2 = .ok (.invokevirtual 133, 3) := by decide +kernel
theorem dX5_missed_5 : decode cX5_missed 5 = .ok (.ifCond .eq 12, 3) := by decide +kernel
theorem dX5_missed_8 : decode cX5_missed 8 = .ok (.aload_n 0, 1) := by decide +kernel
theorem dX5_missed_9 : decode cX5_missed 9 = .ok (.getfield 38, 3) := by decide +kernel
theorem dX5_missed_12 : decode cX5_missed 12 = .ok (.iload_n 1, 1) := by decide +kernel
theorem dX5_missed_13 : decode cX5_missed 13 = .ok (.iaload, 1) := by decide +kernel
theorem dX5_missed_14 : decode cX5_missed 14 = .ok (.goto 4, 3) := by decide +kernel
theorem dX5_missed_17 : decode cX5_missed 17 = .ok (.iconst 0, 1) := by decide +kernel
theorem dX5_missed_18 : decode cX5_missed 18 = .ok (.ireturn, 1) := by decide +kernel
theorem dX5_send_0 : decode cX5_send 0 = .ok (.aload_n 0, 1) := by decide +kernel
theorem dX5_send_1 : decode cX5_send 1 = .ok (.iload_n 1, 1) := by decide +kernel
theorem dX5_send_2 : decode cX5_send 2 = .ok (.iconst 1, 1) := by decide +kernel
theorem dX5_send_3 : decode cX5_send 3 = .ok (.iconst 4, 1) := by decide +kernel
theorem dX5_send_4 : decode cX5_send 4 = .ok (.invokestatic 81, 3) := by decide +kernel
theorem dX5_send_7 : decode cX5_send 7 = .ok (.ifCond .ne 7, 3) := by decide +kernel
theorem dX5_send_10 : decode cX5_send 10 = .ok (.iconst 1, 1) := by decide +kernel
theorem dX5_send_11 : decode cX5_send 11 = .ok (.goto 17, 3) := by decide +kernel
theorem dX5_send_14 : decode cX5_send 14 = .ok (.aload_n 0, 1) := by decide +kernel
theorem dX5_send_15 : decode cX5_send 15 = .ok (.getfield 136, 3) := by decide +kernel
theorem dX5_send_18 : decode cX5_send 18 = .ok (.bipush 60, 2) := by decide +kernel
theorem dX5_send_20 : decode cX5_send 20 = .ok (.if_icmp .ne 7, 3) := by decide +kernel
theorem dX5_send_23 : decode cX5_send 23 = .ok (.iconst 2, 1) := by decide +kernel
theorem dX5_send_24 : decode cX5_send 24 = .ok (.goto 4, 3) := by decide +kernel
theorem dX5_send_27 : decode cX5_send 27 = .ok (.iconst 0, 1) := by decide +kernel
theorem dX5_send_28 : decode cX5_send 28 = .ok (.putfield 77, 3) := by decide +kernel
theorem dX5_send_31 : decode cX5_send 31 = .ok (.aload_n 0, 1) := by decide +kernel
theorem dX5_send_32 : decode cX5_send 32 = .ok (.getfield 77, 3) := by decide +kernel
theorem dX5_send_35 : decode cX5_send 35 = .ok (.ifCond .le 5, 3) := by decide +kernel
theorem dX5_send_38 : decode cX5_send 38 = .ok (.iconst 0, 1) := by decide +kernel
theorem dX5_send_39 : decode cX5_send 39 = .ok (.ireturn, 1) := by decide +kernel
theorem dX5_send_40 : decode cX5_send 40 = .ok (.aload_n 0, 1) := by decide +kernel
theorem dX5_send_41 : decode cX5_send 41 = .ok (.getfield 139, 3) := by decide +kernel
theorem dX5_send_44 : decode cX5_send 44 = .ok (.istore_n 2, 1) := by decide +kernel
theorem dX5_send_45 : decode cX5_send 45 = .ok (.aload_n 0, 1) := by decide +kernel
theorem dX5_send_46 : decode cX5_send 46 = .ok (.getfield 59, 3) := by decide +kernel
theorem dX5_send_49 : decode cX5_send 49 = .ok (.aload_n 0, 1) := by decide +kernel
theorem dX5_send_50 : decode cX5_send 50 = .ok (.getfield 136, 3) := by decide +kernel
theorem dX5_send_53 : decode cX5_send 53 = .ok (.iload_n 2, 1) := by decide +kernel
theorem dX5_send_54 : decode cX5_send 54 = .ok (.iastore, 1) := by decide +kernel
theorem dX5_send_55 : decode cX5_send 55 = .ok (.iconst 0, 1) := by decide +kernel
theorem dX5_send_56 : decode cX5_send 56 = .ok (.istore_n 3, 1) := by decide +kernel
theorem dX5_send_57 : decode cX5_send 57 = .ok (.iload_n 3, 1) := by decide +kernel
theorem dX5_send_58 : decode cX5_send 58 = .ok (.iload_n 1, 1) := by decide +kernel
theorem dX5_send_59 : decode cX5_send 59 = .ok (.if_icmp .ge 21, 3) := by decide +kernel
theorem dX5_send_62 : decode cX5_send 62 = .ok (.aload_n 0, 1) := by decide +kernel
theorem dX5_send_63 : decode cX5_send 63 = .ok (.getfield 62, 3) := by decide +kernel
theorem dX5_send_66 : decode cX5_send 66 = .ok (.iload_n 2, 1) := by decide +kernel
theorem dX5_send_67 : decode cX5_send 67 = .ok (.iload_n 3, 1) := by decide +kernel
theorem dX5_send_68 : decode cX5_send 68 = .ok (.iadd, 1) := by decide +kernel
theorem dX5_send_69 : decode cX5_send 69 = .ok (.aload_n 0, 1) := by decide +kernel
theorem dX5_send_70 : decode cX5_send 70 = .ok (.getfield 136, 3) := by decide +kernel
theorem dX5_send_73 : decode cX5_send 73 = .ok (.iastore, 1) := by decide +kernel
theorem dX5_send_74 : decode cX5_send 74 = .ok (.iinc 3 1, 3) := by decide +kernel
theorem dX5_send_77 : decode cX5_send 77 = .ok (.goto (-20), 3) := by decide +kernel
theorem dX5_send_80 : decode cX5_send 80 = .ok (.aload_n 0, 1) := by decide +kernel
theorem dX5_send_81 : decode cX5_send 81 = .ok (.dup, 1) := by decide +kernel
theorem dX5_send_82 : decode cX5_send 82 = .ok (.getfield 139, 3) := by decide +kernel
theorem dX5_send_85 : decode cX5_send 85 = .ok (.iload_n 1, 1) := by decide +kernel
theorem dX5_send_86 : decode cX5_send 86 = .ok (.iadd, 1) := by decide +kernel
theorem dX5_send_87 : decode cX5_send 87 = .ok (.putfield 139, 3) := by decide +kernel
theorem dX5_send_90 : decode cX5_send 90 = .ok (.aload_n 0, 1) := by decide +kernel
theorem dX5_send_91 : decode cX5_send 91 = .ok (.dup, 1) := by decide +kernel
theorem dX5_send_92 : decode cX5_send 92 = .ok (.getfield 136, 3) := by decide +kernel
theorem dX5_send_95 : decode cX5_send 95 = .ok (.iconst 1, 1) := by decide +kernel
theorem dX5_send_96 : decode cX5_send 96 = .ok (.iadd, 1) := by decide +kernel
theorem dX5_send_97 : decode cX5_send 97 = .ok (.putfield 136, 3) := by decide +kernel
theorem dX5_send_100 : decode cX5_send 100 = .ok (.aload_n 0, 1) := by decide +kernel
theorem dX5_send_101 : decode cX5_send 101 = .ok (.getfield 59, 3) := by decide +kernel
theorem dX5_send_104 : decode cX5_send 104 = .ok (.aload_n 0, 1) := by decide +kernel
theorem dX5_send_105 : decode cX5_send 105 = .ok (.getfield 136, 3) := by decide +kernel
theorem dX5_send_108 : decode cX5_send 108 = .ok (.aload_n 0, 1) := by decide +kernel
theorem dX5_send_109 : decode cX5_send 109 = .ok (.getfield 139, 3) := by decide +kernel
theorem dX5_send_112 : decode cX5_send 112 = .ok (.iastore, 1) := by decide +kernel
theorem dX5_send_113 : decode cX5_send 113 = .ok (.iload_n 2, 1) := by decide +kernel
theorem dX5_send_114 : decode cX5_send 114 = .ok (.ireturn, 1) := by decide +kernel
theorem dX5_bound_0 : decode cX5_bound 0 = .ok (.aload_n 0, 1) := by decide +kernel
theorem dX5_bound_1 : decode cX5_bound 1 = .ok (.getfield 71, 3) := by decide +kernel
theorem dX5_bound_4 : decode cX5_bound 4 = .ok (.iconst 0, 1) := by decide +kernel
theorem dX5_bound_5 : decode cX5_bound 5 = .ok (.iaload, 1) := by decide +kernel
theorem dX5_bound_6 : decode cX5_bound 6 = .ok (.istore_n 1, 1) := by decide +kernel
theorem dX5_bound_7 : decode cX5_bound 7 = .ok (.iconst 1, 1) := by decide +kernel
theorem dX5_bound_8 : decode cX5_bound 8 = .ok (.istore_n 2, 1) := by decide +kernel
theorem dX5_bound_9 : decode cX5_bound 9 = .ok (.iload_n 2, 1) := by decide +kernel
theorem dX5_bound_10 : decode cX5_bound 10 = .ok (.iconst 3, 1) := by decide +kernel
theorem dX5_bound_11 : decode cX5_bound 11 = .ok (.if_icmp .ge 30, 3) := by decide +kernel
theorem dX5_bound_14 : decode cX5_bound 14 = .ok (.aload_n 0, 1) := by decide +kernel
theorem dX5_bound_15 : decode cX5_bound 15 = .ok (.getfield 71, 3) := by decide +kernel
theorem dX5_bound_18 : decode cX5_bound 18 = .ok (.iload_n 2, 1) := by decide +kernel
theorem dX5_bound_19 : decode cX5_bound 19 = .ok (.iaload, 1) := by decide +kernel
theorem dX5_bound_20 : decode cX5_bound 20 = .ok (.iload_n 1, 1) := by decide +kernel
theorem dX5_bound_21 : decode cX5_bound 21 = .ok (.if_icmp .ge 12, 3) := by decide +kernel
theorem dX5_bound_24 : decode cX5_bound 24 = .ok (.aload_n 0, 1) := by decide +kernel
theorem dX5_bound_25 : decode cX5_bound 25 = .ok (.getfield 71, 3) := by decide +kernel
theorem dX5_bound_28 : decode cX5_bound 28 = .ok (.iload_n 2, 1) := by decide +kernel
theorem dX5_bound_29 : decode cX5_bound 29 = .ok (.iaload, 1) := by decide +kernel
theorem dX5_bound_30 : decode cX5_bound 30 = .ok (.goto 4, 3) := by decide +kernel
theorem dX5_bound_33 : decode cX5_bound 33 = .ok (.iload_n 1, 1) := by decide +kernel
theorem dX5_bound_34 : decode cX5_bound 34 = .ok (.istore_n 1, 1) := by decide +kernel
theorem dX5_bound_35 : decode cX5_bound 35 = .ok (.iinc 2 1, 3) := by decide +kernel
theorem dX5_bound_38 : decode cX5_bound 38 = .ok (.goto (-29), 3) := by decide +kernel
theorem dX5_bound_41 : decode cX5_bound 41 = .ok (.iload_n 1, 1) := by decide +kernel
theorem dX5_bound_42 : decode cX5_bound 42 = .ok (.ireturn, 1) := by decide +kernel
theorem dX5_missing_0 : decode cX5_missing 0 = .ok (.aload_n 0, 1) := by decide +kernel
theorem dX5_missing_1 : decode cX5_missing 1 = .ok (.getfield 59, 3) := by decide +kernel
theorem dX5_missing_4 : decode cX5_missing 4 = .ok (.iload_n 1, 1) := by decide +kernel
theorem dX5_missing_5 : decode cX5_missing 5 = .ok (.iaload, 1) := by decide +kernel
theorem dX5_missing_6 : decode cX5_missing 6 = .ok (.istore_n 2, 1) := by decide +kernel
theorem dX5_missing_7 : decode cX5_missing 7 = .ok (.iload_n 2, 1) := by decide +kernel
theorem dX5_missing_8 : decode cX5_missing 8 = .ok (.aload_n 0, 1) := by decide +kernel
theorem dX5_missing_9 : decode cX5_missing 9 = .ok (.getfield 59, 3) := by decide +kernel
theorem dX5_missing_12 : decode cX5_missing 12 = .ok (.iload_n 1, 1) := by decide +kernel
theorem dX5_missing_13 : decode cX5_missing 13 = .ok (.iconst 1, 1) := by decide +kernel
theorem dX5_missing_14 : decode cX5_missing 14 = .ok (.iadd, 1) := by decide +kernel
theorem dX5_missing_15 : decode cX5_missing 15 = .ok (.iaload, 1) := by decide +kernel
theorem dX5_missing_16 : decode cX5_missing 16 = .ok (.if_icmp .ge 18, 3) := by decide +kernel
theorem dX5_missing_19 : decode cX5_missing 19 = .ok (.aload_n 0, 1) := by decide +kernel
theorem dX5_missing_20 : decode cX5_missing 20 = .ok (.getfield 65, 3) := by decide +kernel
theorem dX5_missing_23 : decode cX5_missing 23 = .ok (.iload_n 2, 1) := by decide +kernel
theorem dX5_missing_24 : decode cX5_missing 24 = .ok (.baload, 1) := by decide +kernel
theorem dX5_missing_25 : decode cX5_missing 25 = .ok (.ifCond .eq 9, 3) := by decide +kernel
theorem dX5_missing_28 : decode cX5_missing 28 = .ok (.iinc 2 1, 3) := by decide +kernel
theorem dX5_missing_31 : decode cX5_missing 31 = .ok (.goto (-24), 3) := by decide +kernel
theorem dX5_missing_34 : decode cX5_missing 34 = .ok (.iload_n 2, 1) := by decide +kernel
theorem dX5_missing_35 : decode cX5_missing 35 = .ok (.ireturn, 1) := by decide +kernel
theorem dX5_goesOn_0 : decode cX5_goesOn 0 = .ok (.aload_n 0, 1) := by decide +kernel
theorem dX5_goesOn_1 : decode cX5_goesOn 1 = .ok (.getfield 142, 3) := by decide +kernel
theorem dX5_goesOn_4 : decode cX5_goesOn 4 = .ok (.aload_n 0, 1) := by decide +kernel
theorem dX5_goesOn_5 : decode cX5_goesOn 5 = .ok (.getfield 139, 3) := by decide +kernel
theorem dX5_goesOn_8 : decode cX5_goesOn 8 = .ok (.if_icmp .lt 5, 3) := by decide +kernel
theorem dX5_goesOn_11 : decode cX5_goesOn 11 = .ok (.iconst 0, 1) := by decide +kernel
theorem dX5_goesOn_12 : decode cX5_goesOn 12 = .ok (.ireturn, 1) := by decide +kernel
theorem dX5_goesOn_13 : decode cX5_goesOn 13 = .ok (.aload_n 0, 1) := by decide +kernel
theorem dX5_goesOn_14 : decode cX5_goesOn 14 = .ok (.getfield 62, 3) := by decide +kernel
theorem dX5_goesOn_17 : decode cX5_goesOn 17 = .ok (.aload_n 0, 1) := by decide +kernel
theorem dX5_goesOn_18 : decode cX5_goesOn 18 = .ok (.getfield 142, 3) := by decide +kernel
theorem dX5_goesOn_21 : decode cX5_goesOn 21 = .ok (.iaload, 1) := by decide +kernel
theorem dX5_goesOn_22 : decode cX5_goesOn 22 = .ok (.istore_n 1, 1) := by decide +kernel
theorem dX5_goesOn_23 : decode cX5_goesOn 23 = .ok (.aload_n 0, 1) := by decide +kernel
theorem dX5_goesOn_24 : decode cX5_goesOn 24 = .ok (.getfield 59, 3) := by decide +kernel
theorem dX5_goesOn_27 : decode cX5_goesOn 27 = .ok (.iload_n 1, 1) := by decide +kernel
theorem dX5_goesOn_28 : decode cX5_goesOn 28 = .ok (.iaload, 1) := by decide +kernel
theorem dX5_goesOn_29 : decode cX5_goesOn 29 = .ok (.aload_n 0, 1) := by decide +kernel
theorem dX5_goesOn_30 : decode cX5_goesOn 30 = .ok (.getfield 142, 3) := by decide +kernel
theorem dX5_goesOn_33 : decode cX5_goesOn 33 = .ok (.if_icmp .ne 7, 3) := by decide +kernel
theorem dX5_goesOn_36 : decode cX5_goesOn 36 = .ok (.iconst 1, 1) := by decide +kernel
theorem dX5_goesOn_37 : decode cX5_goesOn 37 = .ok (.goto 4, 3) := by decide +kernel
theorem dX5_goesOn_40 : decode cX5_goesOn 40 = .ok (.iconst 0, 1) := by decide +kernel
theorem dX5_goesOn_41 : decode cX5_goesOn 41 = .ok (.istore_n 2, 1) := by decide +kernel
theorem dX5_goesOn_42 : decode cX5_goesOn 42 = .ok (.aload_n 0, 1) := by decide +kernel
theorem dX5_goesOn_43 : decode cX5_goesOn 43 = .ok (.invokevirtual 145, 3) := by decide +kernel
theorem dX5_goesOn_46 : decode cX5_goesOn 46 = .ok (.istore_n 3, 1) := by decide +kernel
theorem dX5_goesOn_47 : decode cX5_goesOn 47 = .ok (.aload_n 0, 1) := by decide +kernel
theorem dX5_goesOn_48 : decode cX5_goesOn 48 = .ok (.getfield 65, 3) := by decide +kernel
theorem dX5_goesOn_51 : decode cX5_goesOn 51 = .ok (.aload_n 0, 1) := by decide +kernel
theorem dX5_goesOn_52 : decode cX5_goesOn 52 = .ok (.getfield 142, 3) := by decide +kernel
theorem dX5_goesOn_55 : decode cX5_goesOn 55 = .ok (.baload, 1) := by decide +kernel
theorem dX5_goesOn_56 : decode cX5_goesOn 56 = .ok (.ifCond .eq 7, 3) := by decide +kernel
theorem dX5_goesOn_59 : decode cX5_goesOn 59 = .ok (.iload_n 2, 1) := by decide +kernel
theorem dX5_goesOn_60 : decode cX5_goesOn 60 = .ok (.ifCond .ne 52, 3) := by decide +kernel
theorem dX5_goesOn_63 : decode cX5_goesOn 63 = .ok (.aload_n 0, 1) := by decide +kernel
theorem dX5_goesOn_64 : decode cX5_goesOn 64 = .ok (.getfield 65, 3) := by decide +kernel
theorem dX5_goesOn_67 : decode cX5_goesOn 67 = .ok (.aload_n 0, 1) := by decide +kernel
theorem dX5_goesOn_68 : decode cX5_goesOn 68 = .ok (.getfield 142, 3) := by decide +kernel
theorem dX5_goesOn_71 : decode cX5_goesOn 71 = .ok (.baload, 1) := by decide +kernel
theorem dX5_goesOn_72 : decode cX5_goesOn 72 = .ok (.ifCond .ne 11, 3) := by decide +kernel
theorem dX5_goesOn_75 : decode cX5_goesOn 75 = .ok (.aload_n 0, 1) := by decide +kernel
theorem dX5_goesOn_76 : decode cX5_goesOn 76 = .ok (.getfield 142, 3) := by decide +kernel
theorem dX5_goesOn_79 : decode cX5_goesOn 79 = .ok (.iload_n 3, 1) := by decide +kernel
theorem dX5_goesOn_80 : decode cX5_goesOn 80 = .ok (.if_icmp .ge 7, 3) := by decide +kernel
theorem dX5_goesOn_83 : decode cX5_goesOn 83 = .ok (.iconst 1, 1) := by decide +kernel
theorem dX5_goesOn_84 : decode cX5_goesOn 84 = .ok (.goto 4, 3) := by decide +kernel
theorem dX5_goesOn_87 : decode cX5_goesOn 87 = .ok (.iconst 0, 1) := by decide +kernel
theorem dX5_goesOn_88 : decode cX5_goesOn 88 = .ok (.istore 4, 2) := by decide +kernel
theorem dX5_goesOn_90 : decode cX5_goesOn 90 = .ok (.aload_n 0, 1) := by decide +kernel
theorem dX5_goesOn_91 : decode cX5_goesOn 91 = .ok (.dup, 1) := by decide +kernel
theorem dX5_goesOn_92 : decode cX5_goesOn 92 = .ok (.getfield 142, 3) := by decide +kernel
theorem dX5_goesOn_95 : decode cX5_goesOn 95 = .ok (.iload 4, 2) := by decide +kernel
theorem dX5_goesOn_97 : decode cX5_goesOn 97 = .ok (.ifCond .eq 7, 3) := by decide +kernel
theorem dX5_goesOn_100 : decode cX5_goesOn 100 = .ok (.iconst 1, 1) := by decide +kernel
theorem dX5_goesOn_101 : decode cX5_goesOn 101 = .ok (.goto 4, 3) := by decide +kernel
theorem dX5_goesOn_104 : decode cX5_goesOn 104 = .ok (.iconst 0, 1) := by decide +kernel
theorem dX5_goesOn_105 : decode cX5_goesOn 105 = .ok (.iadd, 1) := by decide +kernel
theorem dX5_goesOn_106 : decode cX5_goesOn 106 = .ok (.putfield 142, 3) := by decide +kernel
theorem dX5_goesOn_109 : decode cX5_goesOn 109 = .ok (.iload 4, 2) := by decide +kernel
theorem dX5_goesOn_111 : decode cX5_goesOn 111 = .ok (.ireturn, 1) := by decide +kernel
theorem dX5_goesOn_112 : decode cX5_goesOn 112 = .ok (.aload_n 0, 1) := by decide +kernel
theorem dX5_goesOn_113 : decode cX5_goesOn 113 = .ok (.iload_n 1, 1) := by decide +kernel
theorem dX5_goesOn_114 : decode cX5_goesOn 114 = .ok (.invokevirtual 149, 3) := by decide +kernel
theorem dX5_goesOn_117 : decode cX5_goesOn 117 = .ok (.istore 4, 2) := by decide +kernel
theorem dX5_goesOn_119 : decode cX5_goesOn 119 = .ok (.iload 4, 2) := by decide +kernel
theorem dX5_goesOn_121 : decode cX5_goesOn 121 = .ok (.aload_n 0, 1) := by decide +kernel
theorem dX5_goesOn_122 : decode cX5_goesOn 122 = .ok (.getfield 59, 3) := by decide +kernel
theorem dX5_goesOn_125 : decode cX5_goesOn 125 = .ok (.iload_n 1, 1) := by decide +kernel
theorem dX5_goesOn_126 : decode cX5_goesOn 126 = .ok (.iconst 1, 1) := by decide +kernel
theorem dX5_goesOn_127 : decode cX5_goesOn 127 = .ok (.iadd, 1) := by decide +kernel
theorem dX5_goesOn_128 : decode cX5_goesOn 128 = .ok (.iaload, 1) := by decide +kernel
theorem dX5_goesOn_129 : decode cX5_goesOn 129 = .ok (.if_icmp .ne 31, 3) := by decide +kernel
theorem dX5_goesOn_132 : decode cX5_goesOn 132 = .ok (.aload_n 0, 1) := by decide +kernel
theorem dX5_goesOn_133 : decode cX5_goesOn 133 = .ok (.getfield 74, 3) := by decide +kernel
theorem dX5_goesOn_136 : decode cX5_goesOn 136 = .ok (.aload_n 0, 1) := by decide +kernel
theorem dX5_goesOn_137 : decode cX5_goesOn 137 = .ok (.getfield 152, 3) := by decide +kernel
theorem dX5_goesOn_140 : decode cX5_goesOn 140 = .ok (.iload_n 1, 1) := by decide +kernel
theorem dX5_goesOn_141 : decode cX5_goesOn 141 = .ok (.iastore, 1) := by decide +kernel
theorem dX5_goesOn_142 : decode cX5_goesOn 142 = .ok (.aload_n 0, 1) := by decide +kernel
theorem dX5_goesOn_143 : decode cX5_goesOn 143 = .ok (.dup, 1) := by decide +kernel
theorem dX5_goesOn_144 : decode cX5_goesOn 144 = .ok (.getfield 152, 3) := by decide +kernel
theorem dX5_goesOn_147 : decode cX5_goesOn 147 = .ok (.iconst 1, 1) := by decide +kernel
theorem dX5_goesOn_148 : decode cX5_goesOn 148 = .ok (.iadd, 1) := by decide +kernel
theorem dX5_goesOn_149 : decode cX5_goesOn 149 = .ok (.putfield 152, 3) := by decide +kernel
theorem dX5_goesOn_152 : decode cX5_goesOn 152 = .ok (.aload_n 0, 1) := by decide +kernel
theorem dX5_goesOn_153 : decode cX5_goesOn 153 = .ok (.iload 4, 2) := by decide +kernel
theorem dX5_goesOn_155 : decode cX5_goesOn 155 = .ok (.putfield 142, 3) := by decide +kernel
theorem dX5_goesOn_158 : decode cX5_goesOn 158 = .ok (.iconst 1, 1) := by decide +kernel
theorem dX5_goesOn_159 : decode cX5_goesOn 159 = .ok (.ireturn, 1) := by decide +kernel
theorem dX5_goesOn_160 : decode cX5_goesOn 160 = .ok (.aload_n 0, 1) := by decide +kernel
theorem dX5_goesOn_161 : decode cX5_goesOn 161 = .ok (.iload 4, 2) := by decide +kernel
theorem dX5_goesOn_163 : decode cX5_goesOn 163 = .ok (.iload_n 3, 1) := by decide +kernel
theorem dX5_goesOn_164 : decode cX5_goesOn 164 = .ok (.if_icmp .ge 10, 3) := by decide +kernel
theorem dX5_goesOn_167 : decode cX5_goesOn 167 = .ok (.iload 4, 2) := by decide +kernel
theorem dX5_goesOn_169 : decode cX5_goesOn 169 = .ok (.iconst 1, 1) := by decide +kernel
theorem dX5_goesOn_170 : decode cX5_goesOn 170 = .ok (.iadd, 1) := by decide +kernel
theorem dX5_goesOn_171 : decode cX5_goesOn 171 = .ok (.goto 7, 3) := by decide +kernel
theorem dX5_goesOn_174 : decode cX5_goesOn 174 = .ok (.aload_n 0, 1) := by decide +kernel
theorem dX5_goesOn_175 : decode cX5_goesOn 175 = .ok (.getfield 142, 3) := by decide +kernel
theorem dX5_goesOn_178 : decode cX5_goesOn 178 = .ok (.putfield 142, 3) := by decide +kernel
theorem dX5_goesOn_181 : decode cX5_goesOn 181 = .ok (.iload 4, 2) := by decide +kernel
theorem dX5_goesOn_183 : decode cX5_goesOn 183 = .ok (.iload_n 3, 1) := by decide +kernel
theorem dX5_goesOn_184 : decode cX5_goesOn 184 = .ok (.if_icmp .ge 7, 3) := by decide +kernel
theorem dX5_goesOn_187 : decode cX5_goesOn 187 = .ok (.iconst 1, 1) := by decide +kernel
theorem dX5_goesOn_188 : decode cX5_goesOn 188 = .ok (.goto 4, 3) := by decide +kernel
theorem dX5_goesOn_191 : decode cX5_goesOn 191 = .ok (.iconst 0, 1) := by decide +kernel
theorem dX5_goesOn_192 : decode cX5_goesOn 192 = .ok (.ireturn, 1) := by decide +kernel
theorem dX5_asksLine_0 : decode cX5_asksLine 0 = .ok (.aload_n 0, 1) := by decide +kernel
theorem dX5_asksLine_1 : decode cX5_asksLine 1 = .ok (.iload_n 1, 1) := by decide +kernel
theorem dX5_asksLine_2 : decode cX5_asksLine 2 = .ok (.iconst 0, 1) := by decide +kernel
theorem dX5_asksLine_3 : decode cX5_asksLine 3 = .ok (.iconst 2, 1) := by decide +kernel
theorem dX5_asksLine_4 : decode cX5_asksLine 4 = .ok (.invokestatic 81, 3) := by decide +kernel
theorem dX5_asksLine_7 : decode cX5_asksLine 7 = .ok (.ifCond .ne 7, 3) := by decide +kernel
theorem dX5_asksLine_10 : decode cX5_asksLine 10 = .ok (.iconst 1, 1) := by decide +kernel
theorem dX5_asksLine_11 : decode cX5_asksLine 11 = .ok (.goto 21, 3) := by decide +kernel
theorem dX5_asksLine_14 : decode cX5_asksLine 14 = .ok (.aload_n 0, 1) := by decide +kernel
theorem dX5_asksLine_15 : decode cX5_asksLine 15 = .ok (.getfield 68, 3) := by decide +kernel
theorem dX5_asksLine_18 : decode cX5_asksLine 18 = .ok (.iload_n 1, 1) := by decide +kernel
theorem dX5_asksLine_19 : decode cX5_asksLine 19 = .ok (.iaload, 1) := by decide +kernel
theorem dX5_asksLine_20 : decode cX5_asksLine 20 = .ok (.aload_n 0, 1) := by decide +kernel
theorem dX5_asksLine_21 : decode cX5_asksLine 21 = .ok (.getfield 139, 3) := by decide +kernel
theorem dX5_asksLine_24 : decode cX5_asksLine 24 = .ok (.if_icmp .lt 7, 3) := by decide +kernel
theorem dX5_asksLine_27 : decode cX5_asksLine 27 = .ok (.iconst 2, 1) := by decide +kernel
theorem dX5_asksLine_28 : decode cX5_asksLine 28 = .ok (.goto 4, 3) := by decide +kernel
theorem dX5_asksLine_31 : decode cX5_asksLine 31 = .ok (.iconst 0, 1) := by decide +kernel
theorem dX5_asksLine_32 : decode cX5_asksLine 32 = .ok (.putfield 77, 3) := by decide +kernel
theorem dX5_asksLine_35 : decode cX5_asksLine 35 = .ok (.aload_n 0, 1) := by decide +kernel
theorem dX5_asksLine_36 : decode cX5_asksLine 36 = .ok (.getfield 77, 3) := by decide +kernel
theorem dX5_asksLine_39 : decode cX5_asksLine 39 = .ok (.ifCond .ne 7, 3) := by decide +kernel
theorem dX5_asksLine_42 : decode cX5_asksLine 42 = .ok (.iconst 1, 1) := by decide +kernel
theorem dX5_asksLine_43 : decode cX5_asksLine 43 = .ok (.goto 4, 3) := by decide +kernel
theorem dX5_asksLine_46 : decode cX5_asksLine 46 = .ok (.iconst 0, 1) := by decide +kernel
theorem dX5_asksLine_47 : decode cX5_asksLine 47 = .ok (.ireturn, 1) := by decide +kernel
theorem dX5_come_0 : decode cX5_come 0 = .ok (.aload_n 0, 1) := by decide +kernel
theorem dX5_come_1 : decode cX5_come 1 = .ok (.iload_n 1, 1) := by decide +kernel
theorem dX5_come_2 : decode cX5_come 2 = .ok (.invokevirtual 155, 3) := by decide +kernel
theorem dX5_come_5 : decode cX5_come 5 = .ok (.ifCond .ne 5, 3) := by decide +kernel
theorem dX5_come_8 : decode cX5_come 8 = .ok (.iconst 0, 1) := by decide +kernel
theorem dX5_come_9 : decode cX5_come 9 = .ok (.ireturn, 1) := by decide +kernel
theorem dX5_come_10 : decode cX5_come 10 = .ok (.aload_n 0, 1) := by decide +kernel
theorem dX5_come_11 : decode cX5_come 11 = .ok (.getfield 152, 3) := by decide +kernel
theorem dX5_come_14 : decode cX5_come 14 = .ok (.istore_n 2, 1) := by decide +kernel
theorem dX5_come_15 : decode cX5_come 15 = .ok (.aload_n 0, 1) := by decide +kernel
theorem dX5_come_16 : decode cX5_come 16 = .ok (.getfield 65, 3) := by decide +kernel
theorem dX5_come_19 : decode cX5_come 19 = .ok (.aload_n 0, 1) := by decide +kernel
theorem dX5_come_20 : decode cX5_come 20 = .ok (.getfield 68, 3) := by decide +kernel
theorem dX5_come_23 : decode cX5_come 23 = .ok (.iload_n 1, 1) := by decide +kernel
theorem dX5_come_24 : decode cX5_come 24 = .ok (.iaload, 1) := by decide +kernel
theorem dX5_come_25 : decode cX5_come 25 = .ok (.iconst 1, 1) := by decide +kernel
theorem dX5_come_26 : decode cX5_come 26 = .ok (.bastore, 1) := by decide +kernel
theorem dX5_come_27 : decode cX5_come 27 = .ok (.aload_n 0, 1) := by decide +kernel
theorem dX5_come_28 : decode cX5_come 28 = .ok (.getfield 71, 3) := by decide +kernel
theorem dX5_come_31 : decode cX5_come 31 = .ok (.iload_n 1, 1) := by decide +kernel
theorem dX5_come_32 : decode cX5_come 32 = .ok (.aload_n 0, 1) := by decide +kernel
theorem dX5_come_33 : decode cX5_come 33 = .ok (.getfield 68, 3) := by decide +kernel
theorem dX5_come_36 : decode cX5_come 36 = .ok (.iload_n 1, 1) := by decide +kernel
theorem dX5_come_37 : decode cX5_come 37 = .ok (.iaload, 1) := by decide +kernel
theorem dX5_come_38 : decode cX5_come 38 = .ok (.iastore, 1) := by decide +kernel
theorem dX5_come_39 : decode cX5_come 39 = .ok (.aload_n 0, 1) := by decide +kernel
theorem dX5_come_40 : decode cX5_come 40 = .ok (.getfield 68, 3) := by decide +kernel
theorem dX5_come_43 : decode cX5_come 43 = .ok (.iload_n 1, 1) := by decide +kernel
theorem dX5_come_44 : decode cX5_come 44 = .ok (.dup2, 1) := by decide +kernel
theorem dX5_come_45 : decode cX5_come 45 = .ok (.iaload, 1) := by decide +kernel
theorem dX5_come_46 : decode cX5_come 46 = .ok (.iconst 3, 1) := by decide +kernel
theorem dX5_come_47 : decode cX5_come 47 = .ok (.iadd, 1) := by decide +kernel
theorem dX5_come_48 : decode cX5_come 48 = .ok (.iastore, 1) := by decide +kernel
theorem dX5_come_49 : decode cX5_come 49 = .ok (.iconst 1, 1) := by decide +kernel
theorem dX5_come_50 : decode cX5_come 50 = .ok (.istore_n 3, 1) := by decide +kernel
theorem dX5_come_51 : decode cX5_come 51 = .ok (.iload_n 3, 1) := by decide +kernel
theorem dX5_come_52 : decode cX5_come 52 = .ok (.ifCond .eq 11, 3) := by decide +kernel
theorem dX5_come_55 : decode cX5_come 55 = .ok (.aload_n 0, 1) := by decide +kernel
theorem dX5_come_56 : decode cX5_come 56 = .ok (.invokevirtual 158, 3) := by decide +kernel
theorem dX5_come_59 : decode cX5_come 59 = .ok (.istore_n 3, 1) := by decide +kernel
theorem dX5_come_60 : decode cX5_come 60 = .ok (.goto (-9), 3) := by decide +kernel
theorem dX5_come_63 : decode cX5_come 63 = .ok (.aload_n 0, 1) := by decide +kernel
theorem dX5_come_64 : decode cX5_come 64 = .ok (.getfield 152, 3) := by decide +kernel
theorem dX5_come_67 : decode cX5_come 67 = .ok (.iload_n 2, 1) := by decide +kernel
theorem dX5_come_68 : decode cX5_come 68 = .ok (.isub, 1) := by decide +kernel
theorem dX5_come_69 : decode cX5_come 69 = .ok (.ireturn, 1) := by decide +kernel
theorem dX5_drop_0 : decode cX5_drop 0 = .ok (.aload_n 0, 1) := by decide +kernel
theorem dX5_drop_1 : decode cX5_drop 1 = .ok (.iload_n 1, 1) := by decide +kernel
theorem dX5_drop_2 : decode cX5_drop 2 = .ok (.invokevirtual 155, 3) := by decide +kernel
theorem dX5_drop_5 : decode cX5_drop 5 = .ok (.ifCond .ne 5, 3) := by decide +kernel
theorem dX5_drop_8 : decode cX5_drop 8 = .ok (.iconst 0, 1) := by decide +kernel
theorem dX5_drop_9 : decode cX5_drop 9 = .ok (.ireturn, 1) := by decide +kernel
theorem dX5_drop_10 : decode cX5_drop 10 = .ok (.aload_n 0, 1) := by decide +kernel
theorem dX5_drop_11 : decode cX5_drop 11 = .ok (.getfield 68, 3) := by decide +kernel
theorem dX5_drop_14 : decode cX5_drop 14 = .ok (.iload_n 1, 1) := by decide +kernel
theorem dX5_drop_15 : decode cX5_drop 15 = .ok (.dup2, 1) := by decide +kernel
theorem dX5_drop_16 : decode cX5_drop 16 = .ok (.iaload, 1) := by decide +kernel
theorem dX5_drop_17 : decode cX5_drop 17 = .ok (.iconst 3, 1) := by decide +kernel
theorem dX5_drop_18 : decode cX5_drop 18 = .ok (.iadd, 1) := by decide +kernel
theorem dX5_drop_19 : decode cX5_drop 19 = .ok (.iastore, 1) := by decide +kernel
theorem dX5_drop_20 : decode cX5_drop 20 = .ok (.aload_n 0, 1) := by decide +kernel
theorem dX5_drop_21 : decode cX5_drop 21 = .ok (.getfield 68, 3) := by decide +kernel
theorem dX5_drop_24 : decode cX5_drop 24 = .ok (.iload_n 1, 1) := by decide +kernel
theorem dX5_drop_25 : decode cX5_drop 25 = .ok (.iaload, 1) := by decide +kernel
theorem dX5_drop_26 : decode cX5_drop 26 = .ok (.iconst 3, 1) := by decide +kernel
theorem dX5_drop_27 : decode cX5_drop 27 = .ok (.isub, 1) := by decide +kernel
theorem dX5_drop_28 : decode cX5_drop 28 = .ok (.ireturn, 1) := by decide +kernel
theorem dX5_given_0 : decode cX5_given 0 = .ok (.aload_n 0, 1) := by decide +kernel
theorem dX5_given_1 : decode cX5_given 1 = .ok (.iconst 0, 1) := by decide +kernel
theorem dX5_given_2 : decode cX5_given 2 = .ok (.putfield 77, 3) := by decide +kernel
theorem dX5_given_5 : decode cX5_given 5 = .ok (.aload_n 0, 1) := by decide +kernel
theorem dX5_given_6 : decode cX5_given 6 = .ok (.getfield 152, 3) := by decide +kernel
theorem dX5_given_9 : decode cX5_given 9 = .ok (.ireturn, 1) := by decide +kernel
theorem dX5_givenAt_0 : decode cX5_givenAt 0 = .ok (.aload_n 0, 1) := by decide +kernel
theorem dX5_givenAt_1 : decode cX5_givenAt 1 = .ok (.iload_n 1, 1) := by decide +kernel
theorem dX5_givenAt_2 : decode cX5_givenAt 2 = .ok (.iconst 0, 1) := by decide +kernel
theorem dX5_givenAt_3 : decode cX5_givenAt 3 = .ok (.aload_n 0, 1) := by decide +kernel
theorem dX5_givenAt_4 : decode cX5_givenAt 4 = .ok (.getfield 152, 3) := by decide +kernel
theorem dX5_givenAt_7 : decode cX5_givenAt 7 = .ok (.iconst 1, 1) := by decide +kernel
theorem dX5_givenAt_8 : decode cX5_givenAt 8 = .ok (.isub, 1) := by decide +kernel
theorem dX5_givenAt_9 : decode cX5_givenAt 9 = .ok (.invokestatic 81, 3) := by decide +kernel
theorem dX5_givenAt_12 : decode cX5_givenAt 12 = .ok (.ifCond .eq 7, 3) := by decide +kernel
theorem dX5_givenAt_15 : decode cX5_givenAt 15 = .ok (.iconst 0, 1) := by decide +kernel
theorem dX5_givenAt_16 : decode cX5_givenAt 16 = .ok (.goto 4, 3) := by decide +kernel
theorem dX5_givenAt_19 : decode cX5_givenAt 19 = .ok (.iconst 1, 1) := by decide +kernel
theorem dX5_givenAt_20 : decode cX5_givenAt 20 = .ok (.putfield 77, 3) := by decide +kernel
theorem dX5_givenAt_23 : decode cX5_givenAt 23 = .ok (.aload_n 0, 1) := by decide +kernel
theorem dX5_givenAt_24 : decode cX5_givenAt 24 = .ok (.getfield 77, 3) := by decide +kernel
theorem dX5_givenAt_27 : decode cX5_givenAt 27 = .ok (.ifCond .le 7, 3) := by decide +kernel
theorem dX5_givenAt_30 : decode cX5_givenAt 30 = .ok (.iconst 0, 1) := by decide +kernel
theorem dX5_givenAt_31 : decode cX5_givenAt 31 = .ok (.goto 9, 3) := by decide +kernel
theorem dX5_givenAt_34 : decode cX5_givenAt 34 = .ok (.aload_n 0, 1) := by decide +kernel
theorem dX5_givenAt_35 : decode cX5_givenAt 35 = .ok (.getfield 74, 3) := by decide +kernel
theorem dX5_givenAt_38 : decode cX5_givenAt 38 = .ok (.iload_n 1, 1) := by decide +kernel
theorem dX5_givenAt_39 : decode cX5_givenAt 39 = .ok (.iaload, 1) := by decide +kernel
theorem dX5_givenAt_40 : decode cX5_givenAt 40 = .ok (.ireturn, 1) := by decide +kernel
theorem dX5_next_0 : decode cX5_next 0 = .ok (.aload_n 0, 1) := by decide +kernel
theorem dX5_next_1 : decode cX5_next 1 = .ok (.iconst 0, 1) := by decide +kernel
theorem dX5_next_2 : decode cX5_next 2 = .ok (.putfield 77, 3) := by decide +kernel
theorem dX5_next_5 : decode cX5_next 5 = .ok (.aload_n 0, 1) := by decide +kernel
theorem dX5_next_6 : decode cX5_next 6 = .ok (.getfield 142, 3) := by decide +kernel
theorem dX5_next_9 : decode cX5_next 9 = .ok (.ireturn, 1) := by decide +kernel
