/-! PurseHouse$Sha.compress (method 16), symbolically -/
theorem cd16_0 : tt_cd 16 0 = (1, .aload_n 0, 1) := by decide +kernel
theorem cd16_1 : tt_cd 16 1 = (2, .iconst 0, 1) := by decide +kernel
theorem cd16_2 : tt_cd 16 2 = (6, .putfield 49, 3) := by decide +kernel
theorem cd16_5 : tt_cd 16 5 = (1, .aload_n 0, 1) := by decide +kernel
theorem cd16_6 : tt_cd 16 6 = (3, .getfield 18, 3) := by decide +kernel
theorem cd16_9 : tt_cd 16 9 = (1, .astore_n 1, 1) := by decide +kernel
theorem cd16_10 : tt_cd 16 10 = (1, .aload_n 0, 1) := by decide +kernel
theorem cd16_11 : tt_cd 16 11 = (3, .getfield 15, 3) := by decide +kernel
theorem cd16_14 : tt_cd 16 14 = (1, .astore_n 2, 1) := by decide +kernel
theorem cd16_15 : tt_cd 16 15 = (2, .iconst 0, 1) := by decide +kernel
theorem cd16_16 : tt_cd 16 16 = (1, .istore_n 3, 1) := by decide +kernel
theorem cd16_17 : tt_cd 16 17 = (1, .iload_n 3, 1) := by decide +kernel
theorem cd16_18 : tt_cd 16 18 = (4, .bipush 16, 2) := by decide +kernel
theorem cd16_20 : tt_cd 16 20 = (5, .if_icmp .ge 63, 3) := by decide +kernel
theorem cd16_23 : tt_cd 16 23 = (2, .iconst 4, 1) := by decide +kernel
theorem cd16_24 : tt_cd 16 24 = (1, .iload_n 3, 1) := by decide +kernel
theorem cd16_25 : tt_cd 16 25 = (2, .imul, 1) := by decide +kernel
theorem cd16_26 : tt_cd 16 26 = (1, .istore 4, 2) := by decide +kernel
theorem cd16_28 : tt_cd 16 28 = (1, .aload_n 2, 1) := by decide +kernel
theorem cd16_29 : tt_cd 16 29 = (1, .iload_n 3, 1) := by decide +kernel
theorem cd16_30 : tt_cd 16 30 = (1, .aload_n 1, 1) := by decide +kernel
theorem cd16_31 : tt_cd 16 31 = (1, .iload 4, 2) := by decide +kernel
theorem cd16_33 : tt_cd 16 33 = (3, .baload, 1) := by decide +kernel
theorem cd16_34 : tt_cd 16 34 = (4, .bipush 24, 2) := by decide +kernel
theorem cd16_36 : tt_cd 16 36 = (2, .ishl, 1) := by decide +kernel
theorem cd16_37 : tt_cd 16 37 = (1, .aload_n 1, 1) := by decide +kernel
theorem cd16_38 : tt_cd 16 38 = (1, .iload 4, 2) := by decide +kernel
theorem cd16_40 : tt_cd 16 40 = (2, .iconst 1, 1) := by decide +kernel
theorem cd16_41 : tt_cd 16 41 = (2, .iadd, 1) := by decide +kernel
theorem cd16_42 : tt_cd 16 42 = (3, .baload, 1) := by decide +kernel
theorem cd16_43 : tt_cd 16 43 = (4, .sipush 255, 3) := by decide +kernel
theorem cd16_46 : tt_cd 16 46 = (2, .iand, 1) := by decide +kernel
theorem cd16_47 : tt_cd 16 47 = (4, .bipush 16, 2) := by decide +kernel
theorem cd16_49 : tt_cd 16 49 = (2, .ishl, 1) := by decide +kernel
theorem cd16_50 : tt_cd 16 50 = (2, .ior, 1) := by decide +kernel
theorem cd16_51 : tt_cd 16 51 = (1, .aload_n 1, 1) := by decide +kernel
theorem cd16_52 : tt_cd 16 52 = (1, .iload 4, 2) := by decide +kernel
theorem cd16_54 : tt_cd 16 54 = (2, .iconst 2, 1) := by decide +kernel
theorem cd16_55 : tt_cd 16 55 = (2, .iadd, 1) := by decide +kernel
theorem cd16_56 : tt_cd 16 56 = (3, .baload, 1) := by decide +kernel
theorem cd16_57 : tt_cd 16 57 = (4, .sipush 255, 3) := by decide +kernel
theorem cd16_60 : tt_cd 16 60 = (2, .iand, 1) := by decide +kernel
theorem cd16_61 : tt_cd 16 61 = (4, .bipush 8, 2) := by decide +kernel
theorem cd16_63 : tt_cd 16 63 = (2, .ishl, 1) := by decide +kernel
theorem cd16_64 : tt_cd 16 64 = (2, .ior, 1) := by decide +kernel
theorem cd16_65 : tt_cd 16 65 = (1, .aload_n 1, 1) := by decide +kernel
theorem cd16_66 : tt_cd 16 66 = (1, .iload 4, 2) := by decide +kernel
theorem cd16_68 : tt_cd 16 68 = (2, .iconst 3, 1) := by decide +kernel
theorem cd16_69 : tt_cd 16 69 = (2, .iadd, 1) := by decide +kernel
theorem cd16_70 : tt_cd 16 70 = (3, .baload, 1) := by decide +kernel
theorem cd16_71 : tt_cd 16 71 = (4, .sipush 255, 3) := by decide +kernel
theorem cd16_74 : tt_cd 16 74 = (2, .iand, 1) := by decide +kernel
theorem cd16_75 : tt_cd 16 75 = (2, .ior, 1) := by decide +kernel
theorem cd16_76 : tt_cd 16 76 = (6, .iastore, 1) := by decide +kernel
theorem cd16_77 : tt_cd 16 77 = (1, .iinc 3 1, 3) := by decide +kernel
theorem cd16_80 : tt_cd 16 80 = (5, .goto (-63), 3) := by decide +kernel
theorem cd16_83 : tt_cd 16 83 = (4, .bipush 16, 2) := by decide +kernel
theorem cd16_85 : tt_cd 16 85 = (1, .istore_n 3, 1) := by decide +kernel
theorem cd16_86 : tt_cd 16 86 = (1, .iload_n 3, 1) := by decide +kernel
theorem cd16_87 : tt_cd 16 87 = (4, .bipush 64, 2) := by decide +kernel
theorem cd16_89 : tt_cd 16 89 = (5, .if_icmp .ge 99, 3) := by decide +kernel
theorem cd16_92 : tt_cd 16 92 = (1, .aload_n 2, 1) := by decide +kernel
theorem cd16_93 : tt_cd 16 93 = (1, .iload_n 3, 1) := by decide +kernel
theorem cd16_94 : tt_cd 16 94 = (4, .bipush 15, 2) := by decide +kernel
theorem cd16_96 : tt_cd 16 96 = (2, .isub, 1) := by decide +kernel
theorem cd16_97 : tt_cd 16 97 = (3, .iaload, 1) := by decide +kernel
theorem cd16_98 : tt_cd 16 98 = (1, .istore 4, 2) := by decide +kernel
theorem cd16_100 : tt_cd 16 100 = (1, .aload_n 2, 1) := by decide +kernel
theorem cd16_101 : tt_cd 16 101 = (1, .iload_n 3, 1) := by decide +kernel
theorem cd16_102 : tt_cd 16 102 = (2, .iconst 2, 1) := by decide +kernel
theorem cd16_103 : tt_cd 16 103 = (2, .isub, 1) := by decide +kernel
theorem cd16_104 : tt_cd 16 104 = (3, .iaload, 1) := by decide +kernel
theorem cd16_105 : tt_cd 16 105 = (1, .istore 5, 2) := by decide +kernel
theorem cd16_107 : tt_cd 16 107 = (1, .aload_n 2, 1) := by decide +kernel
theorem cd16_108 : tt_cd 16 108 = (1, .iload_n 3, 1) := by decide +kernel
theorem cd16_109 : tt_cd 16 109 = (1, .aload_n 2, 1) := by decide +kernel
theorem cd16_110 : tt_cd 16 110 = (1, .iload_n 3, 1) := by decide +kernel
theorem cd16_111 : tt_cd 16 111 = (4, .bipush 16, 2) := by decide +kernel
theorem cd16_113 : tt_cd 16 113 = (2, .isub, 1) := by decide +kernel
theorem cd16_114 : tt_cd 16 114 = (3, .iaload, 1) := by decide +kernel
theorem cd16_115 : tt_cd 16 115 = (1, .aload_n 2, 1) := by decide +kernel
theorem cd16_116 : tt_cd 16 116 = (1, .iload_n 3, 1) := by decide +kernel
theorem cd16_117 : tt_cd 16 117 = (4, .bipush 7, 2) := by decide +kernel
theorem cd16_119 : tt_cd 16 119 = (2, .isub, 1) := by decide +kernel
theorem cd16_120 : tt_cd 16 120 = (3, .iaload, 1) := by decide +kernel
theorem cd16_121 : tt_cd 16 121 = (2, .iadd, 1) := by decide +kernel
theorem cd16_122 : tt_cd 16 122 = (1, .iload 4, 2) := by decide +kernel
theorem cd16_124 : tt_cd 16 124 = (4, .bipush 7, 2) := by decide +kernel
theorem cd16_126 : tt_cd 16 126 = (2, .iushr, 1) := by decide +kernel
theorem cd16_127 : tt_cd 16 127 = (1, .iload 4, 2) := by decide +kernel
theorem cd16_129 : tt_cd 16 129 = (4, .bipush 25, 2) := by decide +kernel
theorem cd16_131 : tt_cd 16 131 = (2, .ishl, 1) := by decide +kernel
theorem cd16_132 : tt_cd 16 132 = (2, .ior, 1) := by decide +kernel
theorem cd16_133 : tt_cd 16 133 = (1, .iload 4, 2) := by decide +kernel
theorem cd16_135 : tt_cd 16 135 = (4, .bipush 18, 2) := by decide +kernel
theorem cd16_137 : tt_cd 16 137 = (2, .iushr, 1) := by decide +kernel
theorem cd16_138 : tt_cd 16 138 = (1, .iload 4, 2) := by decide +kernel
theorem cd16_140 : tt_cd 16 140 = (4, .bipush 14, 2) := by decide +kernel
theorem cd16_142 : tt_cd 16 142 = (2, .ishl, 1) := by decide +kernel
theorem cd16_143 : tt_cd 16 143 = (2, .ior, 1) := by decide +kernel
theorem cd16_144 : tt_cd 16 144 = (2, .ixor, 1) := by decide +kernel
theorem cd16_145 : tt_cd 16 145 = (1, .iload 4, 2) := by decide +kernel
theorem cd16_147 : tt_cd 16 147 = (2, .iconst 3, 1) := by decide +kernel
theorem cd16_148 : tt_cd 16 148 = (2, .iushr, 1) := by decide +kernel
theorem cd16_149 : tt_cd 16 149 = (2, .ixor, 1) := by decide +kernel
theorem cd16_150 : tt_cd 16 150 = (2, .iadd, 1) := by decide +kernel
theorem cd16_151 : tt_cd 16 151 = (1, .iload 5, 2) := by decide +kernel
theorem cd16_153 : tt_cd 16 153 = (4, .bipush 17, 2) := by decide +kernel
theorem cd16_155 : tt_cd 16 155 = (2, .iushr, 1) := by decide +kernel
theorem cd16_156 : tt_cd 16 156 = (1, .iload 5, 2) := by decide +kernel
theorem cd16_158 : tt_cd 16 158 = (4, .bipush 15, 2) := by decide +kernel
theorem cd16_160 : tt_cd 16 160 = (2, .ishl, 1) := by decide +kernel
theorem cd16_161 : tt_cd 16 161 = (2, .ior, 1) := by decide +kernel
theorem cd16_162 : tt_cd 16 162 = (1, .iload 5, 2) := by decide +kernel
theorem cd16_164 : tt_cd 16 164 = (4, .bipush 19, 2) := by decide +kernel
theorem cd16_166 : tt_cd 16 166 = (2, .iushr, 1) := by decide +kernel
theorem cd16_167 : tt_cd 16 167 = (1, .iload 5, 2) := by decide +kernel
theorem cd16_169 : tt_cd 16 169 = (4, .bipush 13, 2) := by decide +kernel
theorem cd16_171 : tt_cd 16 171 = (2, .ishl, 1) := by decide +kernel
theorem cd16_172 : tt_cd 16 172 = (2, .ior, 1) := by decide +kernel
theorem cd16_173 : tt_cd 16 173 = (2, .ixor, 1) := by decide +kernel
theorem cd16_174 : tt_cd 16 174 = (1, .iload 5, 2) := by decide +kernel
theorem cd16_176 : tt_cd 16 176 = (4, .bipush 10, 2) := by decide +kernel
theorem cd16_178 : tt_cd 16 178 = (2, .iushr, 1) := by decide +kernel
theorem cd16_179 : tt_cd 16 179 = (2, .ixor, 1) := by decide +kernel
theorem cd16_180 : tt_cd 16 180 = (2, .iadd, 1) := by decide +kernel
theorem cd16_181 : tt_cd 16 181 = (6, .iastore, 1) := by decide +kernel
theorem cd16_182 : tt_cd 16 182 = (1, .iinc 3 1, 3) := by decide +kernel
theorem cd16_185 : tt_cd 16 185 = (5, .goto (-99), 3) := by decide +kernel
theorem cd16_188 : tt_cd 16 188 = (1, .aload_n 0, 1) := by decide +kernel
theorem cd16_189 : tt_cd 16 189 = (3, .getfield 9, 3) := by decide +kernel
theorem cd16_192 : tt_cd 16 192 = (2, .iconst 0, 1) := by decide +kernel
theorem cd16_193 : tt_cd 16 193 = (3, .iaload, 1) := by decide +kernel
theorem cd16_194 : tt_cd 16 194 = (1, .istore_n 3, 1) := by decide +kernel
theorem cd16_195 : tt_cd 16 195 = (1, .aload_n 0, 1) := by decide +kernel
theorem cd16_196 : tt_cd 16 196 = (3, .getfield 9, 3) := by decide +kernel
theorem cd16_199 : tt_cd 16 199 = (2, .iconst 1, 1) := by decide +kernel
theorem cd16_200 : tt_cd 16 200 = (3, .iaload, 1) := by decide +kernel
theorem cd16_201 : tt_cd 16 201 = (1, .istore 4, 2) := by decide +kernel
theorem cd16_203 : tt_cd 16 203 = (1, .aload_n 0, 1) := by decide +kernel
theorem cd16_204 : tt_cd 16 204 = (3, .getfield 9, 3) := by decide +kernel
theorem cd16_207 : tt_cd 16 207 = (2, .iconst 2, 1) := by decide +kernel
theorem cd16_208 : tt_cd 16 208 = (3, .iaload, 1) := by decide +kernel
theorem cd16_209 : tt_cd 16 209 = (1, .istore 5, 2) := by decide +kernel
theorem cd16_211 : tt_cd 16 211 = (1, .aload_n 0, 1) := by decide +kernel
theorem cd16_212 : tt_cd 16 212 = (3, .getfield 9, 3) := by decide +kernel
theorem cd16_215 : tt_cd 16 215 = (2, .iconst 3, 1) := by decide +kernel
theorem cd16_216 : tt_cd 16 216 = (3, .iaload, 1) := by decide +kernel
theorem cd16_217 : tt_cd 16 217 = (1, .istore 6, 2) := by decide +kernel
theorem cd16_219 : tt_cd 16 219 = (1, .aload_n 0, 1) := by decide +kernel
theorem cd16_220 : tt_cd 16 220 = (3, .getfield 9, 3) := by decide +kernel
theorem cd16_223 : tt_cd 16 223 = (2, .iconst 4, 1) := by decide +kernel
theorem cd16_224 : tt_cd 16 224 = (3, .iaload, 1) := by decide +kernel
theorem cd16_225 : tt_cd 16 225 = (1, .istore 7, 2) := by decide +kernel
theorem cd16_227 : tt_cd 16 227 = (1, .aload_n 0, 1) := by decide +kernel
theorem cd16_228 : tt_cd 16 228 = (3, .getfield 9, 3) := by decide +kernel
theorem cd16_231 : tt_cd 16 231 = (2, .iconst 5, 1) := by decide +kernel
theorem cd16_232 : tt_cd 16 232 = (3, .iaload, 1) := by decide +kernel
theorem cd16_233 : tt_cd 16 233 = (1, .istore 8, 2) := by decide +kernel
theorem cd16_235 : tt_cd 16 235 = (1, .aload_n 0, 1) := by decide +kernel
theorem cd16_236 : tt_cd 16 236 = (3, .getfield 9, 3) := by decide +kernel
theorem cd16_239 : tt_cd 16 239 = (4, .bipush 6, 2) := by decide +kernel
theorem cd16_241 : tt_cd 16 241 = (3, .iaload, 1) := by decide +kernel
theorem cd16_242 : tt_cd 16 242 = (1, .istore 9, 2) := by decide +kernel
theorem cd16_244 : tt_cd 16 244 = (1, .aload_n 0, 1) := by decide +kernel
theorem cd16_245 : tt_cd 16 245 = (3, .getfield 9, 3) := by decide +kernel
theorem cd16_248 : tt_cd 16 248 = (4, .bipush 7, 2) := by decide +kernel
theorem cd16_250 : tt_cd 16 250 = (3, .iaload, 1) := by decide +kernel
theorem cd16_251 : tt_cd 16 251 = (1, .istore 10, 2) := by decide +kernel
theorem cd16_253 : tt_cd 16 253 = (2, .iconst 0, 1) := by decide +kernel
theorem cd16_254 : tt_cd 16 254 = (1, .istore 11, 2) := by decide +kernel
theorem cd16_256 : tt_cd 16 256 = (1, .iload 11, 2) := by decide +kernel
theorem cd16_258 : tt_cd 16 258 = (4, .bipush 64, 2) := by decide +kernel
theorem cd16_260 : tt_cd 16 260 = (5, .if_icmp .ge 152, 3) := by decide +kernel
theorem cd16_263 : tt_cd 16 263 = (1, .iload 10, 2) := by decide +kernel
theorem cd16_265 : tt_cd 16 265 = (1, .iload 7, 2) := by decide +kernel
theorem cd16_267 : tt_cd 16 267 = (4, .bipush 6, 2) := by decide +kernel
theorem cd16_269 : tt_cd 16 269 = (2, .iushr, 1) := by decide +kernel
theorem cd16_270 : tt_cd 16 270 = (1, .iload 7, 2) := by decide +kernel
theorem cd16_272 : tt_cd 16 272 = (4, .bipush 26, 2) := by decide +kernel
theorem cd16_274 : tt_cd 16 274 = (2, .ishl, 1) := by decide +kernel
theorem cd16_275 : tt_cd 16 275 = (2, .ior, 1) := by decide +kernel
theorem cd16_276 : tt_cd 16 276 = (1, .iload 7, 2) := by decide +kernel
theorem cd16_278 : tt_cd 16 278 = (4, .bipush 11, 2) := by decide +kernel
theorem cd16_280 : tt_cd 16 280 = (2, .iushr, 1) := by decide +kernel
theorem cd16_281 : tt_cd 16 281 = (1, .iload 7, 2) := by decide +kernel
theorem cd16_283 : tt_cd 16 283 = (4, .bipush 21, 2) := by decide +kernel
theorem cd16_285 : tt_cd 16 285 = (2, .ishl, 1) := by decide +kernel
theorem cd16_286 : tt_cd 16 286 = (2, .ior, 1) := by decide +kernel
theorem cd16_287 : tt_cd 16 287 = (2, .ixor, 1) := by decide +kernel
theorem cd16_288 : tt_cd 16 288 = (1, .iload 7, 2) := by decide +kernel
theorem cd16_290 : tt_cd 16 290 = (4, .bipush 25, 2) := by decide +kernel
theorem cd16_292 : tt_cd 16 292 = (2, .iushr, 1) := by decide +kernel
theorem cd16_293 : tt_cd 16 293 = (1, .iload 7, 2) := by decide +kernel
theorem cd16_295 : tt_cd 16 295 = (4, .bipush 7, 2) := by decide +kernel
theorem cd16_297 : tt_cd 16 297 = (2, .ishl, 1) := by decide +kernel
theorem cd16_298 : tt_cd 16 298 = (2, .ior, 1) := by decide +kernel
theorem cd16_299 : tt_cd 16 299 = (2, .ixor, 1) := by decide +kernel
theorem cd16_300 : tt_cd 16 300 = (2, .iadd, 1) := by decide +kernel
theorem cd16_301 : tt_cd 16 301 = (1, .iload 9, 2) := by decide +kernel
theorem cd16_303 : tt_cd 16 303 = (1, .iload 7, 2) := by decide +kernel
theorem cd16_305 : tt_cd 16 305 = (1, .iload 8, 2) := by decide +kernel
theorem cd16_307 : tt_cd 16 307 = (1, .iload 9, 2) := by decide +kernel
theorem cd16_309 : tt_cd 16 309 = (2, .ixor, 1) := by decide +kernel
theorem cd16_310 : tt_cd 16 310 = (2, .iand, 1) := by decide +kernel
theorem cd16_311 : tt_cd 16 311 = (2, .ixor, 1) := by decide +kernel
theorem cd16_312 : tt_cd 16 312 = (2, .iadd, 1) := by decide +kernel
theorem cd16_313 : tt_cd 16 313 = (7, .getstatic 124, 3) := by decide +kernel
theorem cd16_316 : tt_cd 16 316 = (1, .iload 11, 2) := by decide +kernel
theorem cd16_318 : tt_cd 16 318 = (11, .iaload, 1) := by decide +kernel
theorem cd16_319 : tt_cd 16 319 = (2, .iadd, 1) := by decide +kernel
theorem cd16_320 : tt_cd 16 320 = (1, .aload_n 2, 1) := by decide +kernel
theorem cd16_321 : tt_cd 16 321 = (1, .iload 11, 2) := by decide +kernel
theorem cd16_323 : tt_cd 16 323 = (3, .iaload, 1) := by decide +kernel
theorem cd16_324 : tt_cd 16 324 = (2, .iadd, 1) := by decide +kernel
theorem cd16_325 : tt_cd 16 325 = (1, .istore 12, 2) := by decide +kernel
theorem cd16_327 : tt_cd 16 327 = (1, .iload_n 3, 1) := by decide +kernel
theorem cd16_328 : tt_cd 16 328 = (2, .iconst 2, 1) := by decide +kernel
theorem cd16_329 : tt_cd 16 329 = (2, .iushr, 1) := by decide +kernel
theorem cd16_330 : tt_cd 16 330 = (1, .iload_n 3, 1) := by decide +kernel
theorem cd16_331 : tt_cd 16 331 = (4, .bipush 30, 2) := by decide +kernel
theorem cd16_333 : tt_cd 16 333 = (2, .ishl, 1) := by decide +kernel
theorem cd16_334 : tt_cd 16 334 = (2, .ior, 1) := by decide +kernel
theorem cd16_335 : tt_cd 16 335 = (1, .iload_n 3, 1) := by decide +kernel
theorem cd16_336 : tt_cd 16 336 = (4, .bipush 13, 2) := by decide +kernel
theorem cd16_338 : tt_cd 16 338 = (2, .iushr, 1) := by decide +kernel
theorem cd16_339 : tt_cd 16 339 = (1, .iload_n 3, 1) := by decide +kernel
theorem cd16_340 : tt_cd 16 340 = (4, .bipush 19, 2) := by decide +kernel
theorem cd16_342 : tt_cd 16 342 = (2, .ishl, 1) := by decide +kernel
theorem cd16_343 : tt_cd 16 343 = (2, .ior, 1) := by decide +kernel
theorem cd16_344 : tt_cd 16 344 = (2, .ixor, 1) := by decide +kernel
theorem cd16_345 : tt_cd 16 345 = (1, .iload_n 3, 1) := by decide +kernel
theorem cd16_346 : tt_cd 16 346 = (4, .bipush 22, 2) := by decide +kernel
theorem cd16_348 : tt_cd 16 348 = (2, .iushr, 1) := by decide +kernel
theorem cd16_349 : tt_cd 16 349 = (1, .iload_n 3, 1) := by decide +kernel
theorem cd16_350 : tt_cd 16 350 = (4, .bipush 10, 2) := by decide +kernel
theorem cd16_352 : tt_cd 16 352 = (2, .ishl, 1) := by decide +kernel
theorem cd16_353 : tt_cd 16 353 = (2, .ior, 1) := by decide +kernel
theorem cd16_354 : tt_cd 16 354 = (2, .ixor, 1) := by decide +kernel
theorem cd16_355 : tt_cd 16 355 = (1, .iload_n 3, 1) := by decide +kernel
theorem cd16_356 : tt_cd 16 356 = (1, .iload 4, 2) := by decide +kernel
theorem cd16_358 : tt_cd 16 358 = (2, .iand, 1) := by decide +kernel
theorem cd16_359 : tt_cd 16 359 = (1, .iload 5, 2) := by decide +kernel
theorem cd16_361 : tt_cd 16 361 = (1, .iload_n 3, 1) := by decide +kernel
theorem cd16_362 : tt_cd 16 362 = (1, .iload 4, 2) := by decide +kernel
theorem cd16_364 : tt_cd 16 364 = (2, .ior, 1) := by decide +kernel
theorem cd16_365 : tt_cd 16 365 = (2, .iand, 1) := by decide +kernel
theorem cd16_366 : tt_cd 16 366 = (2, .ior, 1) := by decide +kernel
theorem cd16_367 : tt_cd 16 367 = (2, .iadd, 1) := by decide +kernel
theorem cd16_368 : tt_cd 16 368 = (1, .istore 13, 2) := by decide +kernel
theorem cd16_370 : tt_cd 16 370 = (1, .iload 9, 2) := by decide +kernel
theorem cd16_372 : tt_cd 16 372 = (1, .istore 10, 2) := by decide +kernel
theorem cd16_374 : tt_cd 16 374 = (1, .iload 8, 2) := by decide +kernel
theorem cd16_376 : tt_cd 16 376 = (1, .istore 9, 2) := by decide +kernel
theorem cd16_378 : tt_cd 16 378 = (1, .iload 7, 2) := by decide +kernel
theorem cd16_380 : tt_cd 16 380 = (1, .istore 8, 2) := by decide +kernel
theorem cd16_382 : tt_cd 16 382 = (1, .iload 6, 2) := by decide +kernel
theorem cd16_384 : tt_cd 16 384 = (1, .iload 12, 2) := by decide +kernel
theorem cd16_386 : tt_cd 16 386 = (2, .iadd, 1) := by decide +kernel
theorem cd16_387 : tt_cd 16 387 = (1, .istore 7, 2) := by decide +kernel
theorem cd16_389 : tt_cd 16 389 = (1, .iload 5, 2) := by decide +kernel
theorem cd16_391 : tt_cd 16 391 = (1, .istore 6, 2) := by decide +kernel
theorem cd16_393 : tt_cd 16 393 = (1, .iload 4, 2) := by decide +kernel
theorem cd16_395 : tt_cd 16 395 = (1, .istore 5, 2) := by decide +kernel
theorem cd16_397 : tt_cd 16 397 = (1, .iload_n 3, 1) := by decide +kernel
theorem cd16_398 : tt_cd 16 398 = (1, .istore 4, 2) := by decide +kernel
theorem cd16_400 : tt_cd 16 400 = (1, .iload 12, 2) := by decide +kernel
theorem cd16_402 : tt_cd 16 402 = (1, .iload 13, 2) := by decide +kernel
theorem cd16_404 : tt_cd 16 404 = (2, .iadd, 1) := by decide +kernel
theorem cd16_405 : tt_cd 16 405 = (1, .istore_n 3, 1) := by decide +kernel
theorem cd16_406 : tt_cd 16 406 = (1, .iinc 11 1, 3) := by decide +kernel
theorem cd16_409 : tt_cd 16 409 = (5, .goto (-153), 3) := by decide +kernel
theorem cd16_412 : tt_cd 16 412 = (1, .aload_n 0, 1) := by decide +kernel
theorem cd16_413 : tt_cd 16 413 = (3, .getfield 9, 3) := by decide +kernel
theorem cd16_416 : tt_cd 16 416 = (2, .iconst 0, 1) := by decide +kernel
theorem cd16_417 : tt_cd 16 417 = (2, .dup2, 1) := by decide +kernel
theorem cd16_418 : tt_cd 16 418 = (3, .iaload, 1) := by decide +kernel
theorem cd16_419 : tt_cd 16 419 = (1, .iload_n 3, 1) := by decide +kernel
theorem cd16_420 : tt_cd 16 420 = (2, .iadd, 1) := by decide +kernel
theorem cd16_421 : tt_cd 16 421 = (6, .iastore, 1) := by decide +kernel
theorem cd16_422 : tt_cd 16 422 = (1, .aload_n 0, 1) := by decide +kernel
theorem cd16_423 : tt_cd 16 423 = (3, .getfield 9, 3) := by decide +kernel
theorem cd16_426 : tt_cd 16 426 = (2, .iconst 1, 1) := by decide +kernel
theorem cd16_427 : tt_cd 16 427 = (2, .dup2, 1) := by decide +kernel
theorem cd16_428 : tt_cd 16 428 = (3, .iaload, 1) := by decide +kernel
theorem cd16_429 : tt_cd 16 429 = (1, .iload 4, 2) := by decide +kernel
theorem cd16_431 : tt_cd 16 431 = (2, .iadd, 1) := by decide +kernel
theorem cd16_432 : tt_cd 16 432 = (6, .iastore, 1) := by decide +kernel
theorem cd16_433 : tt_cd 16 433 = (1, .aload_n 0, 1) := by decide +kernel
theorem cd16_434 : tt_cd 16 434 = (3, .getfield 9, 3) := by decide +kernel
theorem cd16_437 : tt_cd 16 437 = (2, .iconst 2, 1) := by decide +kernel
theorem cd16_438 : tt_cd 16 438 = (2, .dup2, 1) := by decide +kernel
theorem cd16_439 : tt_cd 16 439 = (3, .iaload, 1) := by decide +kernel
theorem cd16_440 : tt_cd 16 440 = (1, .iload 5, 2) := by decide +kernel
theorem cd16_442 : tt_cd 16 442 = (2, .iadd, 1) := by decide +kernel
theorem cd16_443 : tt_cd 16 443 = (6, .iastore, 1) := by decide +kernel
theorem cd16_444 : tt_cd 16 444 = (1, .aload_n 0, 1) := by decide +kernel
theorem cd16_445 : tt_cd 16 445 = (3, .getfield 9, 3) := by decide +kernel
theorem cd16_448 : tt_cd 16 448 = (2, .iconst 3, 1) := by decide +kernel
theorem cd16_449 : tt_cd 16 449 = (2, .dup2, 1) := by decide +kernel
theorem cd16_450 : tt_cd 16 450 = (3, .iaload, 1) := by decide +kernel
theorem cd16_451 : tt_cd 16 451 = (1, .iload 6, 2) := by decide +kernel
theorem cd16_453 : tt_cd 16 453 = (2, .iadd, 1) := by decide +kernel
theorem cd16_454 : tt_cd 16 454 = (6, .iastore, 1) := by decide +kernel
theorem cd16_455 : tt_cd 16 455 = (1, .aload_n 0, 1) := by decide +kernel
theorem cd16_456 : tt_cd 16 456 = (3, .getfield 9, 3) := by decide +kernel
theorem cd16_459 : tt_cd 16 459 = (2, .iconst 4, 1) := by decide +kernel
theorem cd16_460 : tt_cd 16 460 = (2, .dup2, 1) := by decide +kernel
theorem cd16_461 : tt_cd 16 461 = (3, .iaload, 1) := by decide +kernel
theorem cd16_462 : tt_cd 16 462 = (1, .iload 7, 2) := by decide +kernel
theorem cd16_464 : tt_cd 16 464 = (2, .iadd, 1) := by decide +kernel
theorem cd16_465 : tt_cd 16 465 = (6, .iastore, 1) := by decide +kernel
theorem cd16_466 : tt_cd 16 466 = (1, .aload_n 0, 1) := by decide +kernel
theorem cd16_467 : tt_cd 16 467 = (3, .getfield 9, 3) := by decide +kernel
theorem cd16_470 : tt_cd 16 470 = (2, .iconst 5, 1) := by decide +kernel
theorem cd16_471 : tt_cd 16 471 = (2, .dup2, 1) := by decide +kernel
theorem cd16_472 : tt_cd 16 472 = (3, .iaload, 1) := by decide +kernel
theorem cd16_473 : tt_cd 16 473 = (1, .iload 8, 2) := by decide +kernel
theorem cd16_475 : tt_cd 16 475 = (2, .iadd, 1) := by decide +kernel
theorem cd16_476 : tt_cd 16 476 = (6, .iastore, 1) := by decide +kernel
theorem cd16_477 : tt_cd 16 477 = (1, .aload_n 0, 1) := by decide +kernel
theorem cd16_478 : tt_cd 16 478 = (3, .getfield 9, 3) := by decide +kernel
theorem cd16_481 : tt_cd 16 481 = (4, .bipush 6, 2) := by decide +kernel
theorem cd16_483 : tt_cd 16 483 = (2, .dup2, 1) := by decide +kernel
theorem cd16_484 : tt_cd 16 484 = (3, .iaload, 1) := by decide +kernel
theorem cd16_485 : tt_cd 16 485 = (1, .iload 9, 2) := by decide +kernel
theorem cd16_487 : tt_cd 16 487 = (2, .iadd, 1) := by decide +kernel
theorem cd16_488 : tt_cd 16 488 = (6, .iastore, 1) := by decide +kernel
theorem cd16_489 : tt_cd 16 489 = (1, .aload_n 0, 1) := by decide +kernel
theorem cd16_490 : tt_cd 16 490 = (3, .getfield 9, 3) := by decide +kernel
theorem cd16_493 : tt_cd 16 493 = (4, .bipush 7, 2) := by decide +kernel
theorem cd16_495 : tt_cd 16 495 = (2, .dup2, 1) := by decide +kernel
theorem cd16_496 : tt_cd 16 496 = (3, .iaload, 1) := by decide +kernel
theorem cd16_497 : tt_cd 16 497 = (1, .iload 10, 2) := by decide +kernel
theorem cd16_499 : tt_cd 16 499 = (2, .iadd, 1) := by decide +kernel
theorem cd16_500 : tt_cd 16 500 = (6, .iastore, 1) := by decide +kernel
theorem mL16 : tt_mL 16 = 14 := by decide +kernel
theorem mcf_state : tt_fl 16 9 = (1, 2, 0) := by decide +kernel
theorem mcf_words : tt_fl 16 15 = (1, 2, 1) := by decide +kernel
theorem mcf_piece : tt_fl 16 18 = (1, 2, 2) := by decide +kernel
theorem mcf_filled : tt_fl 16 49 = (1, 2, 11) := by decide +kernel
theorem mct_filled : tt_fty 2 11 = .int := by decide +kernel
theorem mcn_filled : tt_ffin 2 11 = false := by decide +kernel
theorem mcs_round : tt_sl 16 124 = 2 + 1 := by decide +kernel
def mc_K : Nat := 25051139735836467913601071899189108501681633092613316132753366958947502841281110980347811086624969305314199562795868290539880502533646505489797110349007385020507326982043050618112420254613810441709594605123090411975756494285771699200369901479195251226368983824020564277645963860728452821576845901498668417244438721537663670541944820957180957595559282976806173113161068298822071065329290006052849814285001949914564097058408480133985233335799884203712730341384999677089997083749077591931498939520449886954646413138343858395935213418018409268340744776361518554939863400075967197509182087778881547827184266701615699472280
theorem mct_round : tt_stt 2 = (0, 64, mc_K) := by decide +kernel
noncomputable def mc_w (w : mv_T 10) (p0 pw ps X W St : Nat) : mv_T 10 := mv_set 10 (mv_set 10 (mv_set 10 w p0 (0, 2, 13, X)) pw (1, 0, 64, W)) ps (1, 0, 8, St)
/-- the places -/
def mc_H (w : mv_T 10) (p0 pp pw ps P : Nat) : Prop := p0 < 1024 ∧ pp < 1024 ∧ pw < 1024 ∧ ps < 1024 ∧ p0 ≠ pw ∧ p0 ≠ ps ∧ pw ≠ ps ∧ pp ≠ p0 ∧ pp ≠ pw ∧ pp ≠ ps ∧ mv_get 10 w pp = (1, 1, 64, P)
/-- the fields -/
def mc_F (X pp pw ps : Nat) : Prop := mv_dec (mv_rd 136 X 0) = (2, ps, 0) ∧ mv_dec (mv_rd 136 X 1) = (2, pw, 0) ∧ mv_dec (mv_rd 136 X 2) = (2, pp, 0)
section MC
variable {w : mv_T 10} {p0 pp pw ps P X W St n fr lo : Nat}
theorem mc_g0 (H : mc_H w p0 pp pw ps P) : mv_get 10 (mc_w w p0 pw ps X W St) p0 = (0, 2, 13, X) := by
  obtain ⟨h1, h2, h3, h4, h5, h6, h7, h8, h9, h10, h11⟩ := H
  unfold mc_w
  rw [mv_gn h4 h1 h6, mv_gn h3 h1 h5, mv_gs h1]
theorem mc_gw (H : mc_H w p0 pp pw ps P) : mv_get 10 (mc_w w p0 pw ps X W St) pw = (1, 0, 64, W) := by
  obtain ⟨h1, h2, h3, h4, h5, h6, h7, h8, h9, h10, h11⟩ := H
  unfold mc_w
  rw [mv_gn h4 h3 h7, mv_gs h3]
theorem mc_gs (H : mc_H w p0 pp pw ps P) : mv_get 10 (mc_w w p0 pw ps X W St) ps = (1, 0, 8, St) := by
  obtain ⟨h1, h2, h3, h4, h5, h6, h7, h8, h9, h10, h11⟩ := H
  unfold mc_w
  rw [mv_gs h4]
theorem mc_gp (H : mc_H w p0 pp pw ps P) : mv_get 10 (mc_w w p0 pw ps X W St) pp = (1, 1, 64, P) := by
  obtain ⟨h1, h2, h3, h4, h5, h6, h7, h8, h9, h10, h11⟩ := H
  unfold mc_w
  rw [mv_gn h4 h2 h10, mv_gn h3 h2 h9, mv_gn h1 h2 h8, h11]
theorem mc_s0 {X' : Nat} (H : mc_H w p0 pp pw ps P) : mv_set 10 (mc_w w p0 pw ps X W St) p0 (0, 2, 13, X') = mc_w w p0 pw ps X' W St := by
  obtain ⟨h1, h2, h3, h4, h5, h6, h7, h8, h9, h10, h11⟩ := H
  unfold mc_w
  rw [mv_sc h4 h1 (Ne.symm h6), mv_sc h3 h1 (Ne.symm h5), mv_ss h1]
theorem mc_sw {W' : Nat} (H : mc_H w p0 pp pw ps P) : mv_set 10 (mc_w w p0 pw ps X W St) pw (1, 0, 64, W') = mc_w w p0 pw ps X W' St := by
  obtain ⟨h1, h2, h3, h4, h5, h6, h7, h8, h9, h10, h11⟩ := H
  unfold mc_w
  rw [mv_sc h4 h3 (Ne.symm h7), mv_ss h3]
theorem mc_ss {St' : Nat} (H : mc_H w p0 pp pw ps P) : mv_set 10 (mc_w w p0 pw ps X W St) ps (1, 0, 8, St') = mc_w w p0 pw ps X W St' := by
  obtain ⟨h1, h2, h3, h4, h5, h6, h7, h8, h9, h10, h11⟩ := H
  unfold mc_w
  rw [mv_ss h4]
theorem mc_id (H : mc_H w p0 pp pw ps P) (e0 : mv_get 10 w p0 = (0, 2, 13, X)) (e1 : mv_get 10 w pw = (1, 0, 64, W)) (e2 : mv_get 10 w ps = (1, 0, 8, St)) : mc_w w p0 pw ps X W St = w := by
  obtain ⟨h1, h2, h3, h4, h5, h6, h7, h8, h9, h10, h11⟩ := H
  unfold mc_w
  rw [mv_sg h1 e0, mv_sg h3 e1, mv_sg h4 e2]
/-- pure: a word of the piece -/
def mc_b (P i : Nat) : Nat := mo_or (mo_or (mo_or (mo_shl (mv_rd 32 P (4 * i)) 24) (mo_shl (mo_and (mv_rd 32 P (4 * i + 1)) 255) 16)) (mo_shl (mo_and (mv_rd 32 P (4 * i + 2)) 255) 8)) (mo_and (mv_rd 32 P (4 * i + 3)) 255)
def mc_W1 (P W : Nat) : Nat → Nat
  | 0 => W
  | i + 1 => mv_wr 32 (mc_W1 P W i) i (mc_b P i)
def mc_x (a : Nat) : Nat := mo_xor (mo_xor (mo_or (mo_ushr a 7) (mo_shl a 25)) (mo_or (mo_ushr a 18) (mo_shl a 14))) (mo_ushr a 3)
def mc_y (a : Nat) : Nat := mo_xor (mo_xor (mo_or (mo_ushr a 17) (mo_shl a 15)) (mo_or (mo_ushr a 19) (mo_shl a 13))) (mo_ushr a 10)
def mc_c (W i : Nat) : Nat := mo_add (mo_add (mo_add (mv_rd 32 W (i - 16)) (mv_rd 32 W (i - 7))) (mc_x (mv_rd 32 W (i - 15)))) (mc_y (mv_rd 32 W (i - 2)))
def mc_W2 (W : Nat) : Nat → Nat
  | 0 => W
  | m + 1 => mv_wr 32 (mc_W2 W m) (16 + m) (mc_c (mc_W2 W m) (16 + m))
def mc_t (e f g h kk ww : Nat) : Nat := mo_add (mo_add (mo_add (mo_add h (mo_xor (mo_xor (mo_or (mo_ushr e 6) (mo_shl e 26)) (mo_or (mo_ushr e 11) (mo_shl e 21))) (mo_or (mo_ushr e 25) (mo_shl e 7)))) (mo_xor g (mo_and e (mo_xor f g)))) kk) ww
def mc_u (a b c : Nat) : Nat := mo_add (mo_xor (mo_xor (mo_or (mo_ushr a 2) (mo_shl a 30)) (mo_or (mo_ushr a 13) (mo_shl a 19))) (mo_or (mo_ushr a 22) (mo_shl a 10))) (mo_or (mo_and a b) (mo_and c (mo_or a b)))
abbrev mc_V : Type := Nat × Nat × Nat × Nat × Nat × Nat × Nat × Nat
def mc_f (W i : Nat) (v : mc_V) : mc_V := match v with
  | (a, b, c, d, e, f, g, h) => (mo_add (mc_t e f g h (mv_rd 32 mc_K i) (mv_rd 32 W i)) (mc_u a b c), a, b, c, mo_add d (mc_t e f g h (mv_rd 32 mc_K i) (mv_rd 32 W i)), e, f, g)
def mc_R (W : Nat) (v : mc_V) : Nat → mc_V
  | 0 => v
  | i + 1 => mc_f W i (mc_R W v i)
def mc_v0 (St : Nat) : mc_V := (mv_rd 32 St 0, mv_rd 32 St 1, mv_rd 32 St 2, mv_rd 32 St 3, mv_rd 32 St 4, mv_rd 32 St 5, mv_rd 32 St 6, mv_rd 32 St 7)
def mc_a1 (St i a : Nat) : Nat := mv_wr 32 St i (mo_add (mv_rd 32 St i) a)
def mc_end (St : Nat) (v : mc_V) : Nat := match v with
  | (a, b, c, d, e, f, g, h) => mc_a1 (mc_a1 (mc_a1 (mc_a1 (mc_a1 (mc_a1 (mc_a1 (mc_a1 St 0 a) 1 b) 2 c) 3 d) 4 e) 5 f) 6 g) 7 h
def mc_Vok (v : mc_V) : Prop := match v with
  | (a, b, c, d, e, f, g, h) => a < 4294967296 ∧ b < 4294967296 ∧ c < 4294967296 ∧ d < 4294967296 ∧ e < 4294967296 ∧ f < 4294967296 ∧ g < 4294967296 ∧ h < 4294967296
theorem mc_f_ok {W i : Nat} {v : mc_V} (h : mc_Vok v) : mc_Vok (mc_f W i v) := by
  obtain ⟨a, b, c, d, e, f, g, hh⟩ := v
  obtain ⟨h1, h2, h3, h4, h5, h6, h7, h8⟩ := h
  exact ⟨mo_add_lt _ _, h1, h2, h3, mo_add_lt _ _, h5, h6, h7⟩
theorem mc_R_ok {W : Nat} {v : mc_V} (h : mc_Vok v) : ∀ i, mc_Vok (mc_R W v i)
  | 0 => h
  | i + 1 => mc_f_ok (mc_R_ok h i)
theorem mc_v0_ok (St : Nat) : mc_Vok (mc_v0 St) := ⟨mo_rd_lt _ _, mo_rd_lt _ _, mo_rd_lt _ _, mo_rd_lt _ _, mo_rd_lt _ _, mo_rd_lt _ _, mo_rd_lt _ _, mo_rd_lt _ _⟩
theorem mc_F' (F : mc_F X pp pw ps) : mc_F (mv_wr 136 X 11 (mv_enc (0, 0, 0))) pp pw ps := by
  obtain ⟨h1, h2, h3⟩ := F
  exact ⟨by rw [mv_rd_ne (by decide)]; exact h1, by rw [mv_rd_ne (by decide)]; exact h2, by rw [mv_rd_ne (by decide)]; exact h3⟩
theorem mc_A (H : mc_H w p0 pp pw ps P) (F : mc_F X pp pw ps) : sy_R 16 n fr lo 0 [(2, p0, 0), (255, 0, 0), (255, 0, 0), (255, 0, 0), (255, 0, 0), (255, 0, 0), (255, 0, 0), (255, 0, 0), (255, 0, 0), (255, 0, 0), (255, 0, 0), (255, 0, 0), (255, 0, 0), (255, 0, 0)] [] (mc_w w p0 pw ps X W St) 17 [(2, p0, 0), (2, pp, 0), (2, pw, 0), (0, 0, 0), (255, 0, 0), (255, 0, 0), (255, 0, 0), (255, 0, 0), (255, 0, 0), (255, 0, 0), (255, 0, 0), (255, 0, 0), (255, 0, 0), (255, 0, 0)] [] (mc_w w p0 pw ps (mv_wr 136 X 11 (mv_enc (0, 0, 0))) W St) := by
  have b0 : p0 < 1024 := H.1
  have b1 : pp < 1024 := H.2.1
  have b2 : pw < 1024 := H.2.2.1
  have b3 : ps < 1024 := H.2.2.2.1
  have F' := mc_F' F
  refine sy_aldn cd16_0 rfl rfl ?_
  refine sy_iconst (v := 0) cd16_1 (by decide) ?_
  refine sy_pfi cd16_2 mcf_filled rfl mct_filled mcn_filled (mc_g0 H) rfl (by decide) (mc_s0 H) ?_
  refine sy_aldn cd16_5 rfl rfl ?_
  refine sy_gf cd16_6 mcf_piece rfl (mc_g0 H) rfl F'.2.2 ?_
  refine sy_astn (j := 1) cd16_9 rfl rfl (sy_ok2 (by assumption)) (by rw [mL16]; rfl) rfl ?_
  simp only [List.set_cons_zero, List.set_cons_succ]
  refine sy_aldn cd16_10 rfl rfl ?_
  refine sy_gf cd16_11 mcf_words rfl (mc_g0 H) rfl F'.2.1 ?_
  refine sy_astn (j := 2) cd16_14 rfl rfl (sy_ok2 (by assumption)) (by rw [mL16]; rfl) rfl ?_
  simp only [List.set_cons_zero, List.set_cons_succ]
  refine sy_iconst (v := 0) cd16_15 (by decide) ?_
  refine sy_istn (j := 3) cd16_16 rfl rfl (sy_ok0 (by first | assumption | exact mo_add_lt _ _ | exact mo_rd_lt _ _ | exact mo_mul_lt _ _ | exact mo_sub_lt _ _ | exact mo_xor_lt (mo_xor_lt (by assumption) (by assumption)) (mo_ushr_lt _ _) | omega)) (by rw [mL16]; rfl) rfl ?_
  simp only [List.set_cons_zero, List.set_cons_succ]
  exact sy_refl
theorem mc_B {i : Nat} (hi : i < 16) (H : mc_H w p0 pp pw ps P) (F : mc_F X pp pw ps) : sy_R 16 n fr lo 17 [(2, p0, 0), (2, pp, 0), (2, pw, 0), (0, i, 0), (255, 0, 0), (255, 0, 0), (255, 0, 0), (255, 0, 0), (255, 0, 0), (255, 0, 0), (255, 0, 0), (255, 0, 0), (255, 0, 0), (255, 0, 0)] [] (mc_w w p0 pw ps X W St) 17 [(2, p0, 0), (2, pp, 0), (2, pw, 0), (0, i + 1, 0), (255, 0, 0), (255, 0, 0), (255, 0, 0), (255, 0, 0), (255, 0, 0), (255, 0, 0), (255, 0, 0), (255, 0, 0), (255, 0, 0), (255, 0, 0)] [] (mc_w w p0 pw ps X (mv_wr 32 W i (mc_b P i)) St) := by
  have b0 : p0 < 1024 := H.1
  have b1 : pp < 1024 := H.2.1
  have b2 : pw < 1024 := H.2.2.1
  have b3 : ps < 1024 := H.2.2.2.1
  refine sy_ildn cd16_17 rfl rfl ?_
  refine sy_bipush (v := 16) cd16_18 (by decide) (by decide) ?_
  refine sy_ge_f cd16_20 (by decide) hi (by decide) ?_
  refine sy_iconst (v := 4) cd16_23 (by decide) ?_
  refine sy_ildn cd16_24 rfl rfl ?_
  refine sy_imul cd16_25 ?_
  refine sy_ist cd16_26 rfl (sy_ok0 (by first | assumption | exact mo_add_lt _ _ | exact mo_rd_lt _ _ | exact mo_mul_lt _ _ | exact mo_sub_lt _ _ | exact mo_xor_lt (mo_xor_lt (by assumption) (by assumption)) (mo_ushr_lt _ _) | omega)) (by rw [mL16]; rfl) rfl ?_
  simp only [List.set_cons_zero, List.set_cons_succ]
  refine sy_aldn cd16_28 rfl rfl ?_
  refine sy_ildn cd16_29 rfl rfl ?_
  refine sy_aldn cd16_30 rfl rfl ?_
  refine sy_ild cd16_31 rfl rfl ?_
  refine sy_bal (i := 4 * i) cd16_33 (mc_gp H) (by unfold mo_mul; omega) (by omega) (by decide) ?_
  refine sy_bipush (v := 24) cd16_34 (by decide) (by decide) ?_
  refine sy_ishl cd16_36 ?_
  refine sy_aldn cd16_37 rfl rfl ?_
  refine sy_ild cd16_38 rfl rfl ?_
  refine sy_iconst (v := 1) cd16_40 (by decide) ?_
  refine sy_iadd cd16_41 ?_
  refine sy_bal (i := 4 * i + 1) cd16_42 (mc_gp H) (by unfold mo_add mo_mul; omega) (by omega) (by decide) ?_
  refine sy_sipush (v := 255) cd16_43 (by decide) (by decide) ?_
  refine sy_iand cd16_46 ?_
  refine sy_bipush (v := 16) cd16_47 (by decide) (by decide) ?_
  refine sy_ishl cd16_49 ?_
  refine sy_ior cd16_50 ?_
  refine sy_aldn cd16_51 rfl rfl ?_
  refine sy_ild cd16_52 rfl rfl ?_
  refine sy_iconst (v := 2) cd16_54 (by decide) ?_
  refine sy_iadd cd16_55 ?_
  refine sy_bal (i := 4 * i + 2) cd16_56 (mc_gp H) (by unfold mo_add mo_mul; omega) (by omega) (by decide) ?_
  refine sy_sipush (v := 255) cd16_57 (by decide) (by decide) ?_
  refine sy_iand cd16_60 ?_
  refine sy_bipush (v := 8) cd16_61 (by decide) (by decide) ?_
  refine sy_ishl cd16_63 ?_
  refine sy_ior cd16_64 ?_
  refine sy_aldn cd16_65 rfl rfl ?_
  refine sy_ild cd16_66 rfl rfl ?_
  refine sy_iconst (v := 3) cd16_68 (by decide) ?_
  refine sy_iadd cd16_69 ?_
  refine sy_bal (i := 4 * i + 3) cd16_70 (mc_gp H) (by unfold mo_add mo_mul; omega) (by omega) (by decide) ?_
  refine sy_sipush (v := 255) cd16_71 (by decide) (by decide) ?_
  refine sy_iand cd16_74 ?_
  refine sy_ior cd16_75 ?_
  refine sy_ias (i := i) cd16_76 (mc_gw H) rfl (by omega) (by decide) (mc_sw H) ?_
  refine sy_iinc (c := 1) cd16_77 rfl (by decide) (by rw [mL16]; rfl) rfl ?_
  simp only [List.set_cons_zero, List.set_cons_succ]
  refine sy_goto (pc' := 17) cd16_80 (by decide) (by decide) ?_
  rw [mo_inc (by omega)]
  exact sy_weak (sy_lw_ok (by simp only [sy_lw]; simp))
theorem mc_Bs (H : mc_H w p0 pp pw ps P) (F : mc_F X pp pw ps) : ∀ m, m ≤ 16 → sy_R 16 n fr lo 17 [(2, p0, 0), (2, pp, 0), (2, pw, 0), (0, 0, 0), (255, 0, 0), (255, 0, 0), (255, 0, 0), (255, 0, 0), (255, 0, 0), (255, 0, 0), (255, 0, 0), (255, 0, 0), (255, 0, 0), (255, 0, 0)] [] (mc_w w p0 pw ps X W St) 17 [(2, p0, 0), (2, pp, 0), (2, pw, 0), (0, m, 0), (255, 0, 0), (255, 0, 0), (255, 0, 0), (255, 0, 0), (255, 0, 0), (255, 0, 0), (255, 0, 0), (255, 0, 0), (255, 0, 0), (255, 0, 0)] [] (mc_w w p0 pw ps X (mc_W1 P W m) St)
  | 0, _ => sy_refl
  | m + 1, h => sy_trans (mc_Bs H F m (by omega)) (mc_B (by omega) H F)
theorem mc_C (H : mc_H w p0 pp pw ps P) (F : mc_F X pp pw ps) : sy_R 16 n fr lo 17 [(2, p0, 0), (2, pp, 0), (2, pw, 0), (0, 16, 0), (255, 0, 0), (255, 0, 0), (255, 0, 0), (255, 0, 0), (255, 0, 0), (255, 0, 0), (255, 0, 0), (255, 0, 0), (255, 0, 0), (255, 0, 0)] [] (mc_w w p0 pw ps X W St) 86 [(2, p0, 0), (2, pp, 0), (2, pw, 0), (0, 16 + 0, 0), (255, 0, 0), (255, 0, 0), (255, 0, 0), (255, 0, 0), (255, 0, 0), (255, 0, 0), (255, 0, 0), (255, 0, 0), (255, 0, 0), (255, 0, 0)] [] (mc_w w p0 pw ps X W St) := by
  have b0 : p0 < 1024 := H.1
  have b1 : pp < 1024 := H.2.1
  have b2 : pw < 1024 := H.2.2.1
  have b3 : ps < 1024 := H.2.2.2.1
  refine sy_ildn cd16_17 rfl rfl ?_
  refine sy_bipush (v := 16) cd16_18 (by decide) (by decide) ?_
  refine sy_ge_t (pc' := 83) cd16_20 (by decide) (Nat.le_refl 16) (by decide) (by decide) ?_
  refine sy_bipush (v := 16) cd16_83 (by decide) (by decide) ?_
  refine sy_istn (j := 3) cd16_85 rfl rfl (sy_ok0 (by decide)) (by rw [mL16]; rfl) rfl ?_
  simp only [List.set_cons_zero, List.set_cons_succ]
  exact sy_refl
theorem mc_D {m : Nat} (hm : m < 48) (H : mc_H w p0 pp pw ps P) (F : mc_F X pp pw ps) : sy_R 16 n fr lo 86 [(2, p0, 0), (2, pp, 0), (2, pw, 0), (0, 16 + m, 0), (255, 0, 0), (255, 0, 0), (255, 0, 0), (255, 0, 0), (255, 0, 0), (255, 0, 0), (255, 0, 0), (255, 0, 0), (255, 0, 0), (255, 0, 0)] [] (mc_w w p0 pw ps X W St) 86 [(2, p0, 0), (2, pp, 0), (2, pw, 0), (0, 16 + (m + 1), 0), (255, 0, 0), (255, 0, 0), (255, 0, 0), (255, 0, 0), (255, 0, 0), (255, 0, 0), (255, 0, 0), (255, 0, 0), (255, 0, 0), (255, 0, 0)] [] (mc_w w p0 pw ps X (mv_wr 32 W (16 + m) (mc_c W (16 + m))) St) := by
  have b0 : p0 < 1024 := H.1
  have b1 : pp < 1024 := H.2.1
  have b2 : pw < 1024 := H.2.2.1
  have b3 : ps < 1024 := H.2.2.2.1
  refine sy_ildn cd16_86 rfl rfl ?_
  refine sy_bipush (v := 64) cd16_87 (by decide) (by decide) ?_
  refine sy_ge_f cd16_89 (by decide) (by omega) (by decide) ?_
  refine sy_aldn cd16_92 rfl rfl ?_
  refine sy_ildn cd16_93 rfl rfl ?_
  refine sy_bipush (v := 15) cd16_94 (by decide) (by decide) ?_
  refine sy_isub cd16_96 ?_
  refine sy_ial (i := 16 + m - 15) cd16_97 (mc_gw H) (by unfold mo_sub; omega) (by omega) (by decide) ?_
  refine sy_ist cd16_98 rfl (sy_ok0 (by first | assumption | exact mo_add_lt _ _ | exact mo_rd_lt _ _ | exact mo_mul_lt _ _ | exact mo_sub_lt _ _ | exact mo_xor_lt (mo_xor_lt (by assumption) (by assumption)) (mo_ushr_lt _ _) | omega)) (by rw [mL16]; rfl) rfl ?_
  simp only [List.set_cons_zero, List.set_cons_succ]
  refine sy_aldn cd16_100 rfl rfl ?_
  refine sy_ildn cd16_101 rfl rfl ?_
  refine sy_iconst (v := 2) cd16_102 (by decide) ?_
  refine sy_isub cd16_103 ?_
  refine sy_ial (i := 16 + m - 2) cd16_104 (mc_gw H) (by unfold mo_sub; omega) (by omega) (by decide) ?_
  refine sy_ist cd16_105 rfl (sy_ok0 (by first | assumption | exact mo_add_lt _ _ | exact mo_rd_lt _ _ | exact mo_mul_lt _ _ | exact mo_sub_lt _ _ | exact mo_xor_lt (mo_xor_lt (by assumption) (by assumption)) (mo_ushr_lt _ _) | omega)) (by rw [mL16]; rfl) rfl ?_
  simp only [List.set_cons_zero, List.set_cons_succ]
  refine sy_aldn cd16_107 rfl rfl ?_
  refine sy_ildn cd16_108 rfl rfl ?_
  refine sy_aldn cd16_109 rfl rfl ?_
  refine sy_ildn cd16_110 rfl rfl ?_
  refine sy_bipush (v := 16) cd16_111 (by decide) (by decide) ?_
  refine sy_isub cd16_113 ?_
  refine sy_ial (i := 16 + m - 16) cd16_114 (mc_gw H) (by unfold mo_sub; omega) (by omega) (by decide) ?_
  refine sy_aldn cd16_115 rfl rfl ?_
  refine sy_ildn cd16_116 rfl rfl ?_
  refine sy_bipush (v := 7) cd16_117 (by decide) (by decide) ?_
  refine sy_isub cd16_119 ?_
  refine sy_ial (i := 16 + m - 7) cd16_120 (mc_gw H) (by unfold mo_sub; omega) (by omega) (by decide) ?_
  refine sy_iadd cd16_121 ?_
  refine sy_ild cd16_122 rfl rfl ?_
  refine sy_bipush (v := 7) cd16_124 (by decide) (by decide) ?_
  refine sy_iushr cd16_126 ?_
  refine sy_ild cd16_127 rfl rfl ?_
  refine sy_bipush (v := 25) cd16_129 (by decide) (by decide) ?_
  refine sy_ishl cd16_131 ?_
  refine sy_ior cd16_132 ?_
  refine sy_ild cd16_133 rfl rfl ?_
  refine sy_bipush (v := 18) cd16_135 (by decide) (by decide) ?_
  refine sy_iushr cd16_137 ?_
  refine sy_ild cd16_138 rfl rfl ?_
  refine sy_bipush (v := 14) cd16_140 (by decide) (by decide) ?_
  refine sy_ishl cd16_142 ?_
  refine sy_ior cd16_143 ?_
  refine sy_ixor cd16_144 ?_
  refine sy_ild cd16_145 rfl rfl ?_
  refine sy_iconst (v := 3) cd16_147 (by decide) ?_
  refine sy_iushr cd16_148 ?_
  refine sy_ixor cd16_149 ?_
  refine sy_iadd cd16_150 ?_
  refine sy_ild cd16_151 rfl rfl ?_
  refine sy_bipush (v := 17) cd16_153 (by decide) (by decide) ?_
  refine sy_iushr cd16_155 ?_
  refine sy_ild cd16_156 rfl rfl ?_
  refine sy_bipush (v := 15) cd16_158 (by decide) (by decide) ?_
  refine sy_ishl cd16_160 ?_
  refine sy_ior cd16_161 ?_
  refine sy_ild cd16_162 rfl rfl ?_
  refine sy_bipush (v := 19) cd16_164 (by decide) (by decide) ?_
  refine sy_iushr cd16_166 ?_
  refine sy_ild cd16_167 rfl rfl ?_
  refine sy_bipush (v := 13) cd16_169 (by decide) (by decide) ?_
  refine sy_ishl cd16_171 ?_
  refine sy_ior cd16_172 ?_
  refine sy_ixor cd16_173 ?_
  refine sy_ild cd16_174 rfl rfl ?_
  refine sy_bipush (v := 10) cd16_176 (by decide) (by decide) ?_
  refine sy_iushr cd16_178 ?_
  refine sy_ixor cd16_179 ?_
  refine sy_iadd cd16_180 ?_
  refine sy_ias (i := 16 + m) cd16_181 (mc_gw H) rfl (by omega) (by decide) (mc_sw H) ?_
  refine sy_iinc (c := 1) cd16_182 rfl (by decide) (by rw [mL16]; rfl) rfl ?_
  simp only [List.set_cons_zero, List.set_cons_succ]
  refine sy_goto (pc' := 86) cd16_185 (by decide) (by decide) ?_
  rw [mo_inc (by omega)]
  exact sy_weak (sy_lw_ok (by simp only [sy_lw]; simp [Nat.add_assoc]))
theorem mc_Ds (H : mc_H w p0 pp pw ps P) (F : mc_F X pp pw ps) : ∀ m, m ≤ 48 → sy_R 16 n fr lo 86 [(2, p0, 0), (2, pp, 0), (2, pw, 0), (0, 16 + 0, 0), (255, 0, 0), (255, 0, 0), (255, 0, 0), (255, 0, 0), (255, 0, 0), (255, 0, 0), (255, 0, 0), (255, 0, 0), (255, 0, 0), (255, 0, 0)] [] (mc_w w p0 pw ps X W St) 86 [(2, p0, 0), (2, pp, 0), (2, pw, 0), (0, 16 + m, 0), (255, 0, 0), (255, 0, 0), (255, 0, 0), (255, 0, 0), (255, 0, 0), (255, 0, 0), (255, 0, 0), (255, 0, 0), (255, 0, 0), (255, 0, 0)] [] (mc_w w p0 pw ps X (mc_W2 W m) St)
  | 0, _ => sy_refl
  | m + 1, h => sy_trans (mc_Ds H F m (by omega)) (mc_D (by omega) H F)
theorem mc_E (H : mc_H w p0 pp pw ps P) (F : mc_F X pp pw ps) : sy_R 16 n fr lo 86 [(2, p0, 0), (2, pp, 0), (2, pw, 0), (0, 16 + 48, 0), (255, 0, 0), (255, 0, 0), (255, 0, 0), (255, 0, 0), (255, 0, 0), (255, 0, 0), (255, 0, 0), (255, 0, 0), (255, 0, 0), (255, 0, 0)] [] (mc_w w p0 pw ps X W St) 256 [(2, p0, 0), (2, pp, 0), (2, pw, 0), (0, mv_rd 32 St 0, 0), (0, mv_rd 32 St 1, 0), (0, mv_rd 32 St 2, 0), (0, mv_rd 32 St 3, 0), (0, mv_rd 32 St 4, 0), (0, mv_rd 32 St 5, 0), (0, mv_rd 32 St 6, 0), (0, mv_rd 32 St 7, 0), (0, 0, 0), (255, 0, 0), (255, 0, 0)] [] (mc_w w p0 pw ps X W St) := by
  have b0 : p0 < 1024 := H.1
  have b1 : pp < 1024 := H.2.1
  have b2 : pw < 1024 := H.2.2.1
  have b3 : ps < 1024 := H.2.2.2.1
  refine sy_ildn cd16_86 rfl rfl ?_
  refine sy_bipush (v := 64) cd16_87 (by decide) (by decide) ?_
  refine sy_ge_t (pc' := 188) cd16_89 (by decide) (by decide) (by decide) (by decide) ?_
  refine sy_aldn cd16_188 rfl rfl ?_
  refine sy_gf cd16_189 mcf_state rfl (mc_g0 H) rfl F.1 ?_
  refine sy_iconst (v := 0) cd16_192 (by decide) ?_
  refine sy_ial (i := 0) cd16_193 (mc_gs H) rfl (by decide) (by decide) ?_
  refine sy_istn (j := 3) cd16_194 rfl rfl (sy_ok0 (by first | exact mo_rd_lt _ _ | decide)) (by rw [mL16]; rfl) rfl ?_
  simp only [List.set_cons_zero, List.set_cons_succ]
  refine sy_aldn cd16_195 rfl rfl ?_
  refine sy_gf cd16_196 mcf_state rfl (mc_g0 H) rfl F.1 ?_
  refine sy_iconst (v := 1) cd16_199 (by decide) ?_
  refine sy_ial (i := 1) cd16_200 (mc_gs H) rfl (by decide) (by decide) ?_
  refine sy_ist cd16_201 rfl (sy_ok0 (by first | exact mo_rd_lt _ _ | decide)) (by rw [mL16]; rfl) rfl ?_
  simp only [List.set_cons_zero, List.set_cons_succ]
  refine sy_aldn cd16_203 rfl rfl ?_
  refine sy_gf cd16_204 mcf_state rfl (mc_g0 H) rfl F.1 ?_
  refine sy_iconst (v := 2) cd16_207 (by decide) ?_
  refine sy_ial (i := 2) cd16_208 (mc_gs H) rfl (by decide) (by decide) ?_
  refine sy_ist cd16_209 rfl (sy_ok0 (by first | exact mo_rd_lt _ _ | decide)) (by rw [mL16]; rfl) rfl ?_
  simp only [List.set_cons_zero, List.set_cons_succ]
  refine sy_aldn cd16_211 rfl rfl ?_
  refine sy_gf cd16_212 mcf_state rfl (mc_g0 H) rfl F.1 ?_
  refine sy_iconst (v := 3) cd16_215 (by decide) ?_
  refine sy_ial (i := 3) cd16_216 (mc_gs H) rfl (by decide) (by decide) ?_
  refine sy_ist cd16_217 rfl (sy_ok0 (by first | exact mo_rd_lt _ _ | decide)) (by rw [mL16]; rfl) rfl ?_
  simp only [List.set_cons_zero, List.set_cons_succ]
  refine sy_aldn cd16_219 rfl rfl ?_
  refine sy_gf cd16_220 mcf_state rfl (mc_g0 H) rfl F.1 ?_
  refine sy_iconst (v := 4) cd16_223 (by decide) ?_
  refine sy_ial (i := 4) cd16_224 (mc_gs H) rfl (by decide) (by decide) ?_
  refine sy_ist cd16_225 rfl (sy_ok0 (by first | exact mo_rd_lt _ _ | decide)) (by rw [mL16]; rfl) rfl ?_
  simp only [List.set_cons_zero, List.set_cons_succ]
  refine sy_aldn cd16_227 rfl rfl ?_
  refine sy_gf cd16_228 mcf_state rfl (mc_g0 H) rfl F.1 ?_
  refine sy_iconst (v := 5) cd16_231 (by decide) ?_
  refine sy_ial (i := 5) cd16_232 (mc_gs H) rfl (by decide) (by decide) ?_
  refine sy_ist cd16_233 rfl (sy_ok0 (by first | exact mo_rd_lt _ _ | decide)) (by rw [mL16]; rfl) rfl ?_
  simp only [List.set_cons_zero, List.set_cons_succ]
  refine sy_aldn cd16_235 rfl rfl ?_
  refine sy_gf cd16_236 mcf_state rfl (mc_g0 H) rfl F.1 ?_
  refine sy_bipush (v := 6) cd16_239 (by decide) (by decide) ?_
  refine sy_ial (i := 6) cd16_241 (mc_gs H) rfl (by decide) (by decide) ?_
  refine sy_ist cd16_242 rfl (sy_ok0 (by first | exact mo_rd_lt _ _ | decide)) (by rw [mL16]; rfl) rfl ?_
  simp only [List.set_cons_zero, List.set_cons_succ]
  refine sy_aldn cd16_244 rfl rfl ?_
  refine sy_gf cd16_245 mcf_state rfl (mc_g0 H) rfl F.1 ?_
  refine sy_bipush (v := 7) cd16_248 (by decide) (by decide) ?_
  refine sy_ial (i := 7) cd16_250 (mc_gs H) rfl (by decide) (by decide) ?_
  refine sy_ist cd16_251 rfl (sy_ok0 (by first | exact mo_rd_lt _ _ | decide)) (by rw [mL16]; rfl) rfl ?_
  simp only [List.set_cons_zero, List.set_cons_succ]
  refine sy_iconst (v := 0) cd16_253 (by decide) ?_
  refine sy_ist cd16_254 rfl (sy_ok0 (by first | exact mo_rd_lt _ _ | decide)) (by rw [mL16]; rfl) rfl ?_
  simp only [List.set_cons_zero, List.set_cons_succ]
  exact sy_weak (sy_lw_ok (by simp only [sy_lw]; simp))
theorem mc_Fb {i a b c d e f g h : Nat} (hi : i < 64) (ha : a < 4294967296) (hb : b < 4294967296) (hc : c < 4294967296) (hd : d < 4294967296) (he : e < 4294967296) (hf : f < 4294967296) (hg : g < 4294967296) (hh : h < 4294967296) (H : mc_H w p0 pp pw ps P) (F : mc_F X pp pw ps) : sy_R 16 n fr lo 256 [(2, p0, 0), (2, pp, 0), (2, pw, 0), (0, a, 0), (0, b, 0), (0, c, 0), (0, d, 0), (0, e, 0), (0, f, 0), (0, g, 0), (0, h, 0), (0, i, 0), (255, 0, 0), (255, 0, 0)] [] (mc_w w p0 pw ps X W St) 256 [(2, p0, 0), (2, pp, 0), (2, pw, 0), (0, mo_add (mc_t e f g h (mv_rd 32 mc_K i) (mv_rd 32 W i)) (mc_u a b c), 0), (0, a, 0), (0, b, 0), (0, c, 0), (0, mo_add d (mc_t e f g h (mv_rd 32 mc_K i) (mv_rd 32 W i)), 0), (0, e, 0), (0, f, 0), (0, g, 0), (0, i + 1, 0), (255, 0, 0), (255, 0, 0)] [] (mc_w w p0 pw ps X W St) := by
  have b0 : p0 < 1024 := H.1
  have b1 : pp < 1024 := H.2.1
  have b2 : pw < 1024 := H.2.2.1
  have b3 : ps < 1024 := H.2.2.2.1
  refine sy_ild cd16_256 rfl rfl ?_
  refine sy_bipush (v := 64) cd16_258 (by decide) (by decide) ?_
  refine sy_ge_f cd16_260 (by decide) hi (by decide) ?_
  refine sy_ild cd16_263 rfl rfl ?_
  refine sy_ild cd16_265 rfl rfl ?_
  refine sy_bipush (v := 6) cd16_267 (by decide) (by decide) ?_
  refine sy_iushr cd16_269 ?_
  refine sy_ild cd16_270 rfl rfl ?_
  refine sy_bipush (v := 26) cd16_272 (by decide) (by decide) ?_
  refine sy_ishl cd16_274 ?_
  refine sy_ior cd16_275 ?_
  refine sy_ild cd16_276 rfl rfl ?_
  refine sy_bipush (v := 11) cd16_278 (by decide) (by decide) ?_
  refine sy_iushr cd16_280 ?_
  refine sy_ild cd16_281 rfl rfl ?_
  refine sy_bipush (v := 21) cd16_283 (by decide) (by decide) ?_
  refine sy_ishl cd16_285 ?_
  refine sy_ior cd16_286 ?_
  refine sy_ixor cd16_287 ?_
  refine sy_ild cd16_288 rfl rfl ?_
  refine sy_bipush (v := 25) cd16_290 (by decide) (by decide) ?_
  refine sy_iushr cd16_292 ?_
  refine sy_ild cd16_293 rfl rfl ?_
  refine sy_bipush (v := 7) cd16_295 (by decide) (by decide) ?_
  refine sy_ishl cd16_297 ?_
  refine sy_ior cd16_298 ?_
  refine sy_ixor cd16_299 ?_
  refine sy_iadd cd16_300 ?_
  refine sy_ild cd16_301 rfl rfl ?_
  refine sy_ild cd16_303 rfl rfl ?_
  refine sy_ild cd16_305 rfl rfl ?_
  refine sy_ild cd16_307 rfl rfl ?_
  refine sy_ixor cd16_309 ?_
  refine sy_iand cd16_310 ?_
  refine sy_ixor cd16_311 ?_
  refine sy_iadd cd16_312 ?_
  refine sy_gst (q := 2) cd16_313 mcs_round ?_
  refine sy_ild cd16_316 rfl rfl ?_
  refine sy_tld (i := i) cd16_318 mct_round rfl hi (by decide) ?_
  refine sy_iadd cd16_319 ?_
  refine sy_aldn cd16_320 rfl rfl ?_
  refine sy_ild cd16_321 rfl rfl ?_
  refine sy_ial (i := i) cd16_323 (mc_gw H) rfl hi (by decide) ?_
  refine sy_iadd cd16_324 ?_
  refine sy_ist cd16_325 rfl (sy_ok0 (by first | assumption | exact mo_add_lt _ _ | exact mo_rd_lt _ _ | exact mo_mul_lt _ _ | exact mo_sub_lt _ _ | exact mo_xor_lt (mo_xor_lt (by assumption) (by assumption)) (mo_ushr_lt _ _) | omega)) (by rw [mL16]; rfl) rfl ?_
  simp only [List.set_cons_zero, List.set_cons_succ]
  refine sy_ildn cd16_327 rfl rfl ?_
  refine sy_iconst (v := 2) cd16_328 (by decide) ?_
  refine sy_iushr cd16_329 ?_
  refine sy_ildn cd16_330 rfl rfl ?_
  refine sy_bipush (v := 30) cd16_331 (by decide) (by decide) ?_
  refine sy_ishl cd16_333 ?_
  refine sy_ior cd16_334 ?_
  refine sy_ildn cd16_335 rfl rfl ?_
  refine sy_bipush (v := 13) cd16_336 (by decide) (by decide) ?_
  refine sy_iushr cd16_338 ?_
  refine sy_ildn cd16_339 rfl rfl ?_
  refine sy_bipush (v := 19) cd16_340 (by decide) (by decide) ?_
  refine sy_ishl cd16_342 ?_
  refine sy_ior cd16_343 ?_
  refine sy_ixor cd16_344 ?_
  refine sy_ildn cd16_345 rfl rfl ?_
  refine sy_bipush (v := 22) cd16_346 (by decide) (by decide) ?_
  refine sy_iushr cd16_348 ?_
  refine sy_ildn cd16_349 rfl rfl ?_
  refine sy_bipush (v := 10) cd16_350 (by decide) (by decide) ?_
  refine sy_ishl cd16_352 ?_
  refine sy_ior cd16_353 ?_
  refine sy_ixor cd16_354 ?_
  refine sy_ildn cd16_355 rfl rfl ?_
  refine sy_ild cd16_356 rfl rfl ?_
  refine sy_iand cd16_358 ?_
  refine sy_ild cd16_359 rfl rfl ?_
  refine sy_ildn cd16_361 rfl rfl ?_
  refine sy_ild cd16_362 rfl rfl ?_
  refine sy_ior cd16_364 ?_
  refine sy_iand cd16_365 ?_
  refine sy_ior cd16_366 ?_
  refine sy_iadd cd16_367 ?_
  refine sy_ist cd16_368 rfl (sy_ok0 (by first | assumption | exact mo_add_lt _ _ | exact mo_rd_lt _ _ | exact mo_mul_lt _ _ | exact mo_sub_lt _ _ | exact mo_xor_lt (mo_xor_lt (by assumption) (by assumption)) (mo_ushr_lt _ _) | omega)) (by rw [mL16]; rfl) rfl ?_
  simp only [List.set_cons_zero, List.set_cons_succ]
  refine sy_ild cd16_370 rfl rfl ?_
  refine sy_ist cd16_372 rfl (sy_ok0 (by first | assumption | exact mo_add_lt _ _ | exact mo_rd_lt _ _ | exact mo_mul_lt _ _ | exact mo_sub_lt _ _ | exact mo_xor_lt (mo_xor_lt (by assumption) (by assumption)) (mo_ushr_lt _ _) | omega)) (by rw [mL16]; rfl) rfl ?_
  simp only [List.set_cons_zero, List.set_cons_succ]
  refine sy_ild cd16_374 rfl rfl ?_
  refine sy_ist cd16_376 rfl (sy_ok0 (by first | assumption | exact mo_add_lt _ _ | exact mo_rd_lt _ _ | exact mo_mul_lt _ _ | exact mo_sub_lt _ _ | exact mo_xor_lt (mo_xor_lt (by assumption) (by assumption)) (mo_ushr_lt _ _) | omega)) (by rw [mL16]; rfl) rfl ?_
  simp only [List.set_cons_zero, List.set_cons_succ]
  refine sy_ild cd16_378 rfl rfl ?_
  refine sy_ist cd16_380 rfl (sy_ok0 (by first | assumption | exact mo_add_lt _ _ | exact mo_rd_lt _ _ | exact mo_mul_lt _ _ | exact mo_sub_lt _ _ | exact mo_xor_lt (mo_xor_lt (by assumption) (by assumption)) (mo_ushr_lt _ _) | omega)) (by rw [mL16]; rfl) rfl ?_
  simp only [List.set_cons_zero, List.set_cons_succ]
  refine sy_ild cd16_382 rfl rfl ?_
  refine sy_ild cd16_384 rfl rfl ?_
  refine sy_iadd cd16_386 ?_
  refine sy_ist cd16_387 rfl (sy_ok0 (by first | assumption | exact mo_add_lt _ _ | exact mo_rd_lt _ _ | exact mo_mul_lt _ _ | exact mo_sub_lt _ _ | exact mo_xor_lt (mo_xor_lt (by assumption) (by assumption)) (mo_ushr_lt _ _) | omega)) (by rw [mL16]; rfl) rfl ?_
  simp only [List.set_cons_zero, List.set_cons_succ]
  refine sy_ild cd16_389 rfl rfl ?_
  refine sy_ist cd16_391 rfl (sy_ok0 (by first | assumption | exact mo_add_lt _ _ | exact mo_rd_lt _ _ | exact mo_mul_lt _ _ | exact mo_sub_lt _ _ | exact mo_xor_lt (mo_xor_lt (by assumption) (by assumption)) (mo_ushr_lt _ _) | omega)) (by rw [mL16]; rfl) rfl ?_
  simp only [List.set_cons_zero, List.set_cons_succ]
  refine sy_ild cd16_393 rfl rfl ?_
  refine sy_ist cd16_395 rfl (sy_ok0 (by first | assumption | exact mo_add_lt _ _ | exact mo_rd_lt _ _ | exact mo_mul_lt _ _ | exact mo_sub_lt _ _ | exact mo_xor_lt (mo_xor_lt (by assumption) (by assumption)) (mo_ushr_lt _ _) | omega)) (by rw [mL16]; rfl) rfl ?_
  simp only [List.set_cons_zero, List.set_cons_succ]
  refine sy_ildn cd16_397 rfl rfl ?_
  refine sy_ist cd16_398 rfl (sy_ok0 (by first | assumption | exact mo_add_lt _ _ | exact mo_rd_lt _ _ | exact mo_mul_lt _ _ | exact mo_sub_lt _ _ | exact mo_xor_lt (mo_xor_lt (by assumption) (by assumption)) (mo_ushr_lt _ _) | omega)) (by rw [mL16]; rfl) rfl ?_
  simp only [List.set_cons_zero, List.set_cons_succ]
  refine sy_ild cd16_400 rfl rfl ?_
  refine sy_ild cd16_402 rfl rfl ?_
  refine sy_iadd cd16_404 ?_
  refine sy_istn (j := 3) cd16_405 rfl rfl (sy_ok0 (by first | assumption | exact mo_add_lt _ _ | exact mo_rd_lt _ _ | exact mo_mul_lt _ _ | exact mo_sub_lt _ _ | exact mo_xor_lt (mo_xor_lt (by assumption) (by assumption)) (mo_ushr_lt _ _) | omega)) (by rw [mL16]; rfl) rfl ?_
  simp only [List.set_cons_zero, List.set_cons_succ]
  refine sy_iinc (c := 1) cd16_406 rfl (by decide) (by rw [mL16]; rfl) rfl ?_
  simp only [List.set_cons_zero, List.set_cons_succ]
  refine sy_goto (pc' := 256) cd16_409 (by decide) (by decide) ?_
  rw [mo_inc (by omega)]
  exact sy_weak (sy_lw_ok (by simp only [sy_lw]; simp [mc_t, mc_u]))
theorem mc_Fs (H : mc_H w p0 pp pw ps P) (F : mc_F X pp pw ps) {v : mc_V} (hv : mc_Vok v) : ∀ m, m ≤ 64 → sy_R 16 n fr lo 256 [(2, p0, 0), (2, pp, 0), (2, pw, 0), (0, v.1, 0), (0, v.2.1, 0), (0, v.2.2.1, 0), (0, v.2.2.2.1, 0), (0, v.2.2.2.2.1, 0), (0, v.2.2.2.2.2.1, 0), (0, v.2.2.2.2.2.2.1, 0), (0, v.2.2.2.2.2.2.2, 0), (0, 0, 0), (255, 0, 0), (255, 0, 0)] [] (mc_w w p0 pw ps X W St) 256 [(2, p0, 0), (2, pp, 0), (2, pw, 0), (0, (mc_R W v m).1, 0), (0, (mc_R W v m).2.1, 0), (0, (mc_R W v m).2.2.1, 0), (0, (mc_R W v m).2.2.2.1, 0), (0, (mc_R W v m).2.2.2.2.1, 0), (0, (mc_R W v m).2.2.2.2.2.1, 0), (0, (mc_R W v m).2.2.2.2.2.2.1, 0), (0, (mc_R W v m).2.2.2.2.2.2.2, 0), (0, m, 0), (255, 0, 0), (255, 0, 0)] [] (mc_w w p0 pw ps X W St)
  | 0, _ => sy_refl
  | m + 1, hm => by
    have hk := mc_R_ok (W := W) hv m
    refine sy_trans (mc_Fs H F hv m (by omega)) ?_
    generalize hr : mc_R W v m = u at hk ⊢
    obtain ⟨a, b, c, d, e, f, g, h⟩ := u
    obtain ⟨h1, h2, h3, h4, h5, h6, h7, h8⟩ := hk
    show sy_R 16 n fr lo 256 [(2, p0, 0), (2, pp, 0), (2, pw, 0), (0, a, 0), (0, b, 0), (0, c, 0), (0, d, 0), (0, e, 0), (0, f, 0), (0, g, 0), (0, h, 0), (0, m, 0), (255, 0, 0), (255, 0, 0)] [] (mc_w w p0 pw ps X W St) 256 [(2, p0, 0), (2, pp, 0), (2, pw, 0), (0, (mc_f W m (mc_R W v m)).1, 0), (0, (mc_f W m (mc_R W v m)).2.1, 0), (0, (mc_f W m (mc_R W v m)).2.2.1, 0), (0, (mc_f W m (mc_R W v m)).2.2.2.1, 0), (0, (mc_f W m (mc_R W v m)).2.2.2.2.1, 0), (0, (mc_f W m (mc_R W v m)).2.2.2.2.2.1, 0), (0, (mc_f W m (mc_R W v m)).2.2.2.2.2.2.1, 0), (0, (mc_f W m (mc_R W v m)).2.2.2.2.2.2.2, 0), (0, m + 1, 0), (255, 0, 0), (255, 0, 0)] [] (mc_w w p0 pw ps X W St)
    rw [hr]
    exact mc_Fb (by omega) h1 h2 h3 h4 h5 h6 h7 h8 H F
theorem mc_G {a b c d e f g h : Nat} (H : mc_H w p0 pp pw ps P) (F : mc_F X pp pw ps) : sy_R 16 n fr lo 256 [(2, p0, 0), (2, pp, 0), (2, pw, 0), (0, a, 0), (0, b, 0), (0, c, 0), (0, d, 0), (0, e, 0), (0, f, 0), (0, g, 0), (0, h, 0), (0, 64, 0), (255, 0, 0), (255, 0, 0)] [] (mc_w w p0 pw ps X W St) 501 [(2, p0, 0), (255, 0, 0), (255, 0, 0), (255, 0, 0), (255, 0, 0), (255, 0, 0), (255, 0, 0), (255, 0, 0), (255, 0, 0), (255, 0, 0), (255, 0, 0), (255, 0, 0), (255, 0, 0), (255, 0, 0)] [] (mc_w w p0 pw ps X W (mc_end St (a, b, c, d, e, f, g, h))) := by
  have b0 : p0 < 1024 := H.1
  have b1 : pp < 1024 := H.2.1
  have b2 : pw < 1024 := H.2.2.1
  have b3 : ps < 1024 := H.2.2.2.1
  refine sy_ild cd16_256 rfl rfl ?_
  refine sy_bipush (v := 64) cd16_258 (by decide) (by decide) ?_
  refine sy_ge_t (pc' := 412) cd16_260 (by decide) (by decide) (by decide) (by decide) ?_
  refine sy_aldn cd16_412 rfl rfl ?_
  refine sy_gf cd16_413 mcf_state rfl (mc_g0 H) rfl F.1 ?_
  refine sy_iconst (v := 0) cd16_416 (by decide) ?_
  refine sy_dup2 cd16_417 rfl ?_
  refine sy_ial (i := 0) cd16_418 (mc_gs H) rfl (by decide) (by decide) ?_
  refine sy_ildn cd16_419 rfl rfl ?_
  refine sy_iadd cd16_420 ?_
  refine sy_ias (i := 0) cd16_421 (mc_gs H) rfl (by decide) (by decide) (mc_ss H) ?_
  refine sy_aldn cd16_422 rfl rfl ?_
  refine sy_gf cd16_423 mcf_state rfl (mc_g0 H) rfl F.1 ?_
  refine sy_iconst (v := 1) cd16_426 (by decide) ?_
  refine sy_dup2 cd16_427 rfl ?_
  refine sy_ial (i := 1) cd16_428 (mc_gs H) rfl (by decide) (by decide) ?_
  refine sy_ild cd16_429 rfl rfl ?_
  refine sy_iadd cd16_431 ?_
  refine sy_ias (i := 1) cd16_432 (mc_gs H) rfl (by decide) (by decide) (mc_ss H) ?_
  refine sy_aldn cd16_433 rfl rfl ?_
  refine sy_gf cd16_434 mcf_state rfl (mc_g0 H) rfl F.1 ?_
  refine sy_iconst (v := 2) cd16_437 (by decide) ?_
  refine sy_dup2 cd16_438 rfl ?_
  refine sy_ial (i := 2) cd16_439 (mc_gs H) rfl (by decide) (by decide) ?_
  refine sy_ild cd16_440 rfl rfl ?_
  refine sy_iadd cd16_442 ?_
  refine sy_ias (i := 2) cd16_443 (mc_gs H) rfl (by decide) (by decide) (mc_ss H) ?_
  refine sy_aldn cd16_444 rfl rfl ?_
  refine sy_gf cd16_445 mcf_state rfl (mc_g0 H) rfl F.1 ?_
  refine sy_iconst (v := 3) cd16_448 (by decide) ?_
  refine sy_dup2 cd16_449 rfl ?_
  refine sy_ial (i := 3) cd16_450 (mc_gs H) rfl (by decide) (by decide) ?_
  refine sy_ild cd16_451 rfl rfl ?_
  refine sy_iadd cd16_453 ?_
  refine sy_ias (i := 3) cd16_454 (mc_gs H) rfl (by decide) (by decide) (mc_ss H) ?_
  refine sy_aldn cd16_455 rfl rfl ?_
  refine sy_gf cd16_456 mcf_state rfl (mc_g0 H) rfl F.1 ?_
  refine sy_iconst (v := 4) cd16_459 (by decide) ?_
  refine sy_dup2 cd16_460 rfl ?_
  refine sy_ial (i := 4) cd16_461 (mc_gs H) rfl (by decide) (by decide) ?_
  refine sy_ild cd16_462 rfl rfl ?_
  refine sy_iadd cd16_464 ?_
  refine sy_ias (i := 4) cd16_465 (mc_gs H) rfl (by decide) (by decide) (mc_ss H) ?_
  refine sy_aldn cd16_466 rfl rfl ?_
  refine sy_gf cd16_467 mcf_state rfl (mc_g0 H) rfl F.1 ?_
  refine sy_iconst (v := 5) cd16_470 (by decide) ?_
  refine sy_dup2 cd16_471 rfl ?_
  refine sy_ial (i := 5) cd16_472 (mc_gs H) rfl (by decide) (by decide) ?_
  refine sy_ild cd16_473 rfl rfl ?_
  refine sy_iadd cd16_475 ?_
  refine sy_ias (i := 5) cd16_476 (mc_gs H) rfl (by decide) (by decide) (mc_ss H) ?_
  refine sy_aldn cd16_477 rfl rfl ?_
  refine sy_gf cd16_478 mcf_state rfl (mc_g0 H) rfl F.1 ?_
  refine sy_bipush (v := 6) cd16_481 (by decide) (by decide) ?_
  refine sy_dup2 cd16_483 rfl ?_
  refine sy_ial (i := 6) cd16_484 (mc_gs H) rfl (by decide) (by decide) ?_
  refine sy_ild cd16_485 rfl rfl ?_
  refine sy_iadd cd16_487 ?_
  refine sy_ias (i := 6) cd16_488 (mc_gs H) rfl (by decide) (by decide) (mc_ss H) ?_
  refine sy_aldn cd16_489 rfl rfl ?_
  refine sy_gf cd16_490 mcf_state rfl (mc_g0 H) rfl F.1 ?_
  refine sy_bipush (v := 7) cd16_493 (by decide) (by decide) ?_
  refine sy_dup2 cd16_495 rfl ?_
  refine sy_ial (i := 7) cd16_496 (mc_gs H) rfl (by decide) (by decide) ?_
  refine sy_ild cd16_497 rfl rfl ?_
  refine sy_iadd cd16_499 ?_
  refine sy_ias (i := 7) cd16_500 (mc_gs H) rfl (by decide) (by decide) (mc_ss H) ?_
  exact sy_weak (sy_lw_ok (by simp only [sy_lw]; simp))
/-- all of it -/
def mc_Wf (P W : Nat) : Nat := mc_W2 (mc_W1 P W 16) 48
def mc_Sf (P W St : Nat) : Nat := mc_end St (mc_R (mc_Wf P W) (mc_v0 St) 64)
theorem mc_all (H : mc_H w p0 pp pw ps P) (F : mc_F X pp pw ps) : sy_R 16 n fr lo 0 [(2, p0, 0), (255, 0, 0), (255, 0, 0), (255, 0, 0), (255, 0, 0), (255, 0, 0), (255, 0, 0), (255, 0, 0), (255, 0, 0), (255, 0, 0), (255, 0, 0), (255, 0, 0), (255, 0, 0), (255, 0, 0)] [] (mc_w w p0 pw ps X W St) 501 [(2, p0, 0), (255, 0, 0), (255, 0, 0), (255, 0, 0), (255, 0, 0), (255, 0, 0), (255, 0, 0), (255, 0, 0), (255, 0, 0), (255, 0, 0), (255, 0, 0), (255, 0, 0), (255, 0, 0), (255, 0, 0)] [] (mc_w w p0 pw ps (mv_wr 136 X 11 (mv_enc (0, 0, 0))) (mc_Wf P W) (mc_Sf P W St)) := by
  have F' := mc_F' F
  refine sy_trans (mc_A H F) (sy_trans (mc_Bs H F' 16 (by decide)) (sy_trans (mc_C H F') (sy_trans (mc_Ds H F' 48 (by decide)) (sy_trans (mc_E H F') (sy_trans (mc_Fs H F' (mc_v0_ok St) 64 (by decide)) ?_)))))
  exact mc_G H F'
end MC
