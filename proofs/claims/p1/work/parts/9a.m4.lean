/-! THE REFERENCE'S MINE, IV: makeFilter -/
theorem xc128_0 : tt_cd 128 0 = (1, .aload_n 0, 1) := by decide +kernel
theorem xc128_1 : tt_cd 128 1 = (2, .iconst 0, 1) := by decide +kernel
theorem xc128_2 : tt_cd 128 2 = (6, .putfield 616, 3) := by decide +kernel
theorem xf128_616 : tt_fl 128 616 = (1, 0, 60) := by decide +kernel
theorem xc128_5 : tt_cd 128 5 = (1, .aload_n 0, 1) := by decide +kernel
theorem xc128_6 : tt_cd 128 6 = (3, .getfield 376, 3) := by decide +kernel
theorem xf128_376 : tt_fl 128 376 = (1, 0, 35) := by decide +kernel
theorem xc128_9 : tt_cd 128 9 = (1, .iload_n 1, 1) := by decide +kernel
theorem xc128_10 : tt_cd 128 10 = (3, .iaload, 1) := by decide +kernel
theorem xc128_11 : tt_cd 128 11 = (1, .istore_n 2, 1) := by decide +kernel
theorem xl128 : tt_mL 128 = 8 := by decide +kernel
theorem xc128_12 : tt_cd 128 12 = (2, .iconst 0, 1) := by decide +kernel
theorem xc128_13 : tt_cd 128 13 = (1, .istore_n 3, 1) := by decide +kernel
theorem xc128_14 : tt_cd 128 14 = (1, .iload_n 3, 1) := by decide +kernel
theorem xc128_15 : tt_cd 128 15 = (1, .iload_n 2, 1) := by decide +kernel
theorem xc128_16 : tt_cd 128 16 = (5, .if_icmp .ge 144, 3) := by decide +kernel
theorem xc128_19 : tt_cd 128 19 = (1, .aload_n 0, 1) := by decide +kernel
theorem xc128_20 : tt_cd 128 20 = (1, .iload_n 1, 1) := by decide +kernel
theorem xc128_21 : tt_cd 128 21 = (1, .iload_n 3, 1) := by decide +kernel
theorem xc128_22 : tt_cd 128 22 = (10, .invokevirtual 588, 3) := by decide +kernel
theorem xm128_588 : tt_ml 128 588 = (3, 115, 2) := by decide +kernel
theorem xi115 : tt_mci 115 = 0 := by decide +kernel
theorem xl115 : tt_mL 115 = 3 := by decide +kernel
theorem xc128_25 : tt_cd 128 25 = (1, .istore 4, 2) := by decide +kernel
theorem xc128_27 : tt_cd 128 27 = (2, .iconst 0, 1) := by decide +kernel
theorem xc128_28 : tt_cd 128 28 = (1, .istore 5, 2) := by decide +kernel
theorem xc128_30 : tt_cd 128 30 = (1, .iload 5, 2) := by decide +kernel
theorem xc128_32 : tt_cd 128 32 = (1, .aload_n 0, 1) := by decide +kernel
theorem xc128_33 : tt_cd 128 33 = (3, .getfield 361, 3) := by decide +kernel
theorem xf128_361 : tt_fl 128 361 = (1, 0, 30) := by decide +kernel
theorem xc128_36 : tt_cd 128 36 = (1, .iload 4, 2) := by decide +kernel
theorem xc128_38 : tt_cd 128 38 = (10, .invokestatic 591, 3) := by decide +kernel
theorem xm128_591 : tt_ml 128 591 = (1, 118, 2) := by decide +kernel
theorem xl118 : tt_mL 118 = 2 := by decide +kernel
theorem xc128_41 : tt_cd 128 41 = (5, .if_icmp .ge 26, 3) := by decide +kernel
theorem xc128_44 : tt_cd 128 44 = (1, .aload_n 0, 1) := by decide +kernel
theorem xc128_45 : tt_cd 128 45 = (1, .aload_n 0, 1) := by decide +kernel
theorem xc128_46 : tt_cd 128 46 = (3, .getfield 361, 3) := by decide +kernel
theorem xc128_49 : tt_cd 128 49 = (1, .iload 4, 2) := by decide +kernel
theorem xc128_51 : tt_cd 128 51 = (1, .iload 5, 2) := by decide +kernel
theorem xc128_53 : tt_cd 128 53 = (10, .invokestatic 594, 3) := by decide +kernel
theorem xm128_594 : tt_ml 128 594 = (1, 120, 3) := by decide +kernel
theorem xl120 : tt_mL 120 = 3 := by decide +kernel
theorem xc128_56 : tt_cd 128 56 = (2, .iconst 4, 1) := by decide +kernel
theorem xc128_57 : tt_cd 128 57 = (2, .iadd, 1) := by decide +kernel
theorem xc128_58 : tt_cd 128 58 = (10, .invokevirtual 622, 3) := by decide +kernel
theorem xm128_622 : tt_ml 128 622 = (3, 129, 1) := by decide +kernel
theorem xi129 : tt_mci 129 = 0 := by decide +kernel
theorem xc128_61 : tt_cd 128 61 = (1, .iinc 5 1, 3) := by decide +kernel
theorem xc128_64 : tt_cd 128 64 = (5, .goto (-34), 3) := by decide +kernel
theorem xc128_67 : tt_cd 128 67 = (1, .aload_n 0, 1) := by decide +kernel
theorem xc128_68 : tt_cd 128 68 = (3, .getfield 376, 3) := by decide +kernel
theorem xc128_71 : tt_cd 128 71 = (1, .iload_n 1, 1) := by decide +kernel
theorem xc128_72 : tt_cd 128 72 = (1, .iload_n 3, 1) := by decide +kernel
theorem xc128_73 : tt_cd 128 73 = (6, .iastore, 1) := by decide +kernel
theorem xc128_74 : tt_cd 128 74 = (2, .iconst 0, 1) := by decide +kernel
theorem xc128_75 : tt_cd 128 75 = (1, .istore 5, 2) := by decide +kernel
theorem xc128_77 : tt_cd 128 77 = (1, .iload 5, 2) := by decide +kernel
theorem xc128_79 : tt_cd 128 79 = (1, .aload_n 0, 1) := by decide +kernel
theorem xc128_80 : tt_cd 128 80 = (3, .getfield 361, 3) := by decide +kernel
theorem xc128_83 : tt_cd 128 83 = (1, .iload 4, 2) := by decide +kernel
theorem xc128_85 : tt_cd 128 85 = (10, .invokestatic 601, 3) := by decide +kernel
theorem xm128_601 : tt_ml 128 601 = (1, 117, 2) := by decide +kernel
theorem xl117 : tt_mL 117 = 2 := by decide +kernel
theorem xc128_88 : tt_cd 128 88 = (5, .if_icmp .ge 59, 3) := by decide +kernel
theorem xc128_147 : tt_cd 128 147 = (1, .aload_n 0, 1) := by decide +kernel
theorem xc128_148 : tt_cd 128 148 = (3, .getfield 376, 3) := by decide +kernel
theorem xc128_151 : tt_cd 128 151 = (1, .iload_n 1, 1) := by decide +kernel
theorem xc128_152 : tt_cd 128 152 = (1, .iload_n 2, 1) := by decide +kernel
theorem xc128_153 : tt_cd 128 153 = (6, .iastore, 1) := by decide +kernel
theorem xc128_154 : tt_cd 128 154 = (1, .iinc 3 1, 3) := by decide +kernel
theorem xc128_157 : tt_cd 128 157 = (5, .goto (-143), 3) := by decide +kernel
theorem xc128_160 : tt_cd 128 160 = (1, .aload_n 0, 1) := by decide +kernel
theorem xc128_161 : tt_cd 128 161 = (3, .getfield 616, 3) := by decide +kernel
theorem xc128_164 : tt_cd 128 164 = (1, .istore_n 3, 1) := by decide +kernel
theorem xc128_165 : tt_cd 128 165 = (2, .iconst 0, 1) := by decide +kernel
theorem xc128_166 : tt_cd 128 166 = (1, .istore 4, 2) := by decide +kernel
theorem xc128_168 : tt_cd 128 168 = (1, .iload 4, 2) := by decide +kernel
theorem xc128_170 : tt_cd 128 170 = (1, .iload_n 3, 1) := by decide +kernel
theorem xc128_171 : tt_cd 128 171 = (5, .if_icmp .ge 107, 3) := by decide +kernel
theorem xc128_174 : tt_cd 128 174 = (1, .aload_n 0, 1) := by decide +kernel
theorem xc128_175 : tt_cd 128 175 = (1, .aload_n 0, 1) := by decide +kernel
theorem xc128_176 : tt_cd 128 176 = (3, .getfield 382, 3) := by decide +kernel
theorem xf128_382 : tt_fl 128 382 = (1, 0, 37) := by decide +kernel
theorem xc128_179 : tt_cd 128 179 = (4, .bipush 105, 2) := by decide +kernel
theorem xc128_181 : tt_cd 128 181 = (1, .iload_n 1, 1) := by decide +kernel
theorem xc128_182 : tt_cd 128 182 = (2, .imul, 1) := by decide +kernel
theorem xc128_183 : tt_cd 128 183 = (1, .aload_n 0, 1) := by decide +kernel
theorem xc128_184 : tt_cd 128 184 = (3, .getfield 439, 3) := by decide +kernel
theorem xf128_439 : tt_fl 128 439 = (1, 0, 59) := by decide +kernel
theorem xc128_187 : tt_cd 128 187 = (4, .bipush 20, 2) := by decide +kernel
theorem xc128_189 : tt_cd 128 189 = (1, .iload 4, 2) := by decide +kernel
theorem xc128_191 : tt_cd 128 191 = (2, .imul, 1) := by decide +kernel
theorem xc128_192 : tt_cd 128 192 = (1, .iload_n 3, 1) := by decide +kernel
theorem xc128_193 : tt_cd 128 193 = (10, .invokevirtual 625, 3) := by decide +kernel
theorem xm128_625 : tt_ml 128 625 = (3, 114, 5) := by decide +kernel
theorem xi114 : tt_mci 114 = 0 := by decide +kernel
theorem xc128_196 : tt_cd 128 196 = (1, .istore 5, 2) := by decide +kernel
theorem xc128_198 : tt_cd 128 198 = (1, .iload 4, 2) := by decide +kernel
theorem xc128_200 : tt_cd 128 200 = (1, .istore 6, 2) := by decide +kernel
theorem xc128_202 : tt_cd 128 202 = (1, .iload 6, 2) := by decide +kernel
theorem xc128_204 : tt_cd 128 204 = (5, .ifCond .le 54, 3) := by decide +kernel
theorem xc128_258 : tt_cd 128 258 = (1, .aload_n 0, 1) := by decide +kernel
theorem xc128_259 : tt_cd 128 259 = (3, .getfield 412, 3) := by decide +kernel
theorem xf128_412 : tt_fl 128 412 = (1, 0, 47) := by decide +kernel
theorem xc128_262 : tt_cd 128 262 = (4, .bipush 24, 2) := by decide +kernel
theorem xc128_264 : tt_cd 128 264 = (1, .iload_n 1, 1) := by decide +kernel
theorem xc128_265 : tt_cd 128 265 = (2, .imul, 1) := by decide +kernel
theorem xc128_266 : tt_cd 128 266 = (1, .iload 6, 2) := by decide +kernel
theorem xc128_268 : tt_cd 128 268 = (2, .iadd, 1) := by decide +kernel
theorem xc128_269 : tt_cd 128 269 = (1, .iload 5, 2) := by decide +kernel
theorem xc128_271 : tt_cd 128 271 = (6, .iastore, 1) := by decide +kernel
theorem xc128_272 : tt_cd 128 272 = (1, .iinc 4 1, 3) := by decide +kernel
theorem xc128_275 : tt_cd 128 275 = (5, .goto (-107), 3) := by decide +kernel
theorem xc128_278 : tt_cd 128 278 = (1, .aload_n 0, 1) := by decide +kernel
theorem xc128_279 : tt_cd 128 279 = (3, .getfield 415, 3) := by decide +kernel
theorem xf128_415 : tt_fl 128 415 = (1, 0, 48) := by decide +kernel
theorem xc128_282 : tt_cd 128 282 = (1, .iload_n 1, 1) := by decide +kernel
theorem xc128_283 : tt_cd 128 283 = (1, .iload_n 3, 1) := by decide +kernel
theorem xc128_284 : tt_cd 128 284 = (6, .iastore, 1) := by decide +kernel
theorem xc128_285 : tt_cd 128 285 = (2, .iconst 0, 1) := by decide +kernel
theorem xc128_286 : tt_cd 128 286 = (1, .istore 4, 2) := by decide +kernel
theorem xc128_288 : tt_cd 128 288 = (1, .iload 4, 2) := by decide +kernel
theorem xc128_290 : tt_cd 128 290 = (4, .bipush 80, 2) := by decide +kernel
theorem xc128_292 : tt_cd 128 292 = (5, .if_icmp .ge 22, 3) := by decide +kernel
theorem xc128_295 : tt_cd 128 295 = (1, .aload_n 0, 1) := by decide +kernel
theorem xc128_296 : tt_cd 128 296 = (3, .getfield 406, 3) := by decide +kernel
theorem xf128_406 : tt_fl 128 406 = (1, 0, 45) := by decide +kernel
theorem xc128_299 : tt_cd 128 299 = (4, .bipush 80, 2) := by decide +kernel
theorem xc128_301 : tt_cd 128 301 = (1, .iload_n 1, 1) := by decide +kernel
theorem xc128_302 : tt_cd 128 302 = (2, .imul, 1) := by decide +kernel
theorem xc128_303 : tt_cd 128 303 = (1, .iload 4, 2) := by decide +kernel
theorem xc128_305 : tt_cd 128 305 = (2, .iadd, 1) := by decide +kernel
theorem xc128_306 : tt_cd 128 306 = (2, .iconst 0, 1) := by decide +kernel
theorem xc128_307 : tt_cd 128 307 = (6, .bastore, 1) := by decide +kernel
theorem xc128_308 : tt_cd 128 308 = (1, .iinc 4 1, 3) := by decide +kernel
theorem xc128_311 : tt_cd 128 311 = (5, .goto (-23), 3) := by decide +kernel
theorem xc128_314 : tt_cd 128 314 = (1, .aload_n 0, 1) := by decide +kernel
theorem xc128_315 : tt_cd 128 315 = (3, .getfield 406, 3) := by decide +kernel
theorem xc128_318 : tt_cd 128 318 = (4, .bipush 80, 2) := by decide +kernel
theorem xc128_320 : tt_cd 128 320 = (1, .iload_n 1, 1) := by decide +kernel
theorem xc128_321 : tt_cd 128 321 = (2, .imul, 1) := by decide +kernel
theorem xc128_322 : tt_cd 128 322 = (1, .iload_n 3, 1) := by decide +kernel
theorem xc128_323 : tt_cd 128 323 = (2, .i2b, 1) := by decide +kernel
theorem xc128_324 : tt_cd 128 324 = (6, .bastore, 1) := by decide +kernel
theorem xc128_325 : tt_cd 128 325 = (1, .aload_n 0, 1) := by decide +kernel
theorem xc128_326 : tt_cd 128 326 = (4, .bipush 8, 2) := by decide +kernel
theorem xc128_328 : tt_cd 128 328 = (6, .putfield 619, 3) := by decide +kernel
theorem xf128_619 : tt_fl 128 619 = (1, 0, 61) := by decide +kernel
theorem xc128_331 : tt_cd 128 331 = (2, .iconst 0, 1) := by decide +kernel
theorem xc128_332 : tt_cd 128 332 = (1, .istore 4, 2) := by decide +kernel
theorem xc128_334 : tt_cd 128 334 = (2, .iconst 0, 1) := by decide +kernel
theorem xc128_335 : tt_cd 128 335 = (1, .istore 5, 2) := by decide +kernel
theorem xc128_337 : tt_cd 128 337 = (1, .iload 5, 2) := by decide +kernel
theorem xc128_339 : tt_cd 128 339 = (1, .iload_n 3, 1) := by decide +kernel
theorem xc128_340 : tt_cd 128 340 = (5, .if_icmp .ge 97, 3) := by decide +kernel
theorem xc128_343 : tt_cd 128 343 = (1, .aload_n 0, 1) := by decide +kernel
theorem xc128_344 : tt_cd 128 344 = (3, .getfield 412, 3) := by decide +kernel
theorem xc128_347 : tt_cd 128 347 = (4, .bipush 24, 2) := by decide +kernel
theorem xc128_349 : tt_cd 128 349 = (1, .iload_n 1, 1) := by decide +kernel
theorem xc128_350 : tt_cd 128 350 = (2, .imul, 1) := by decide +kernel
theorem xc128_351 : tt_cd 128 351 = (1, .iload 5, 2) := by decide +kernel
theorem xc128_353 : tt_cd 128 353 = (2, .iadd, 1) := by decide +kernel
theorem xc128_354 : tt_cd 128 354 = (3, .iaload, 1) := by decide +kernel
theorem xc128_355 : tt_cd 128 355 = (1, .iload 4, 2) := by decide +kernel
theorem xc128_357 : tt_cd 128 357 = (2, .isub, 1) := by decide +kernel
theorem xc128_358 : tt_cd 128 358 = (1, .istore 6, 2) := by decide +kernel
theorem xc128_360 : tt_cd 128 360 = (1, .aload_n 0, 1) := by decide +kernel
theorem xc128_361 : tt_cd 128 361 = (3, .getfield 412, 3) := by decide +kernel
theorem xc128_364 : tt_cd 128 364 = (4, .bipush 24, 2) := by decide +kernel
theorem xc128_366 : tt_cd 128 366 = (1, .iload_n 1, 1) := by decide +kernel
theorem xc128_367 : tt_cd 128 367 = (2, .imul, 1) := by decide +kernel
theorem xc128_368 : tt_cd 128 368 = (1, .iload 5, 2) := by decide +kernel
theorem xc128_370 : tt_cd 128 370 = (2, .iadd, 1) := by decide +kernel
theorem xc128_371 : tt_cd 128 371 = (3, .iaload, 1) := by decide +kernel
theorem xc128_372 : tt_cd 128 372 = (1, .istore 4, 2) := by decide +kernel
theorem xc128_374 : tt_cd 128 374 = (2, .iconst 0, 1) := by decide +kernel
theorem xc128_375 : tt_cd 128 375 = (1, .istore 7, 2) := by decide +kernel
theorem xc128_377 : tt_cd 128 377 = (1, .iload 7, 2) := by decide +kernel
theorem xc128_379 : tt_cd 128 379 = (1, .iload 6, 2) := by decide +kernel
theorem xc128_381 : tt_cd 128 381 = (4, .bipush 64, 2) := by decide +kernel
theorem xc128_383 : tt_cd 128 383 = (2, .idiv, 1) := by decide +kernel
theorem xc128_384 : tt_cd 128 384 = (5, .if_icmp .ge 15, 3) := by decide +kernel
theorem xc128_399 : tt_cd 128 399 = (1, .aload_n 0, 1) := by decide +kernel
theorem xc128_400 : tt_cd 128 400 = (1, .iload_n 1, 1) := by decide +kernel
theorem xc128_401 : tt_cd 128 401 = (2, .iconst 0, 1) := by decide +kernel
theorem xc128_402 : tt_cd 128 402 = (10, .invokevirtual 629, 3) := by decide +kernel
theorem xm128_629 : tt_ml 128 629 = (3, 130, 2) := by decide +kernel
theorem xi130 : tt_mci 130 = 0 := by decide +kernel
theorem xl130 : tt_mL 130 = 3 := by decide +kernel
theorem xc128_405 : tt_cd 128 405 = (2, .iconst 5, 1) := by decide +kernel
theorem xc128_406 : tt_cd 128 406 = (1, .istore 7, 2) := by decide +kernel
theorem xc128_408 : tt_cd 128 408 = (1, .iload 7, 2) := by decide +kernel
theorem xc128_410 : tt_cd 128 410 = (5, .ifCond .lt 21, 3) := by decide +kernel
theorem xc128_413 : tt_cd 128 413 = (1, .aload_n 0, 1) := by decide +kernel
theorem xc128_414 : tt_cd 128 414 = (1, .iload_n 1, 1) := by decide +kernel
theorem xc128_415 : tt_cd 128 415 = (1, .iload 6, 2) := by decide +kernel
theorem xc128_417 : tt_cd 128 417 = (1, .iload 7, 2) := by decide +kernel
theorem xc128_419 : tt_cd 128 419 = (2, .ishr, 1) := by decide +kernel
theorem xc128_420 : tt_cd 128 420 = (2, .iconst 1, 1) := by decide +kernel
theorem xc128_421 : tt_cd 128 421 = (2, .iand, 1) := by decide +kernel
theorem xc128_422 : tt_cd 128 422 = (10, .invokevirtual 629, 3) := by decide +kernel
theorem xc128_425 : tt_cd 128 425 = (1, .iinc 7 (-1), 3) := by decide +kernel
theorem xc128_428 : tt_cd 128 428 = (5, .goto (-20), 3) := by decide +kernel
theorem xc128_431 : tt_cd 128 431 = (1, .iinc 5 1, 3) := by decide +kernel
theorem xc128_434 : tt_cd 128 434 = (5, .goto (-97), 3) := by decide +kernel
theorem xc128_437 : tt_cd 128 437 = (1, .aload_n 0, 1) := by decide +kernel
theorem xc128_438 : tt_cd 128 438 = (3, .getfield 409, 3) := by decide +kernel
theorem xf128_409 : tt_fl 128 409 = (1, 0, 46) := by decide +kernel
theorem xc128_441 : tt_cd 128 441 = (1, .iload_n 1, 1) := by decide +kernel
theorem xc128_442 : tt_cd 128 442 = (1, .aload_n 0, 1) := by decide +kernel
theorem xc128_443 : tt_cd 128 443 = (3, .getfield 619, 3) := by decide +kernel
theorem xc128_446 : tt_cd 128 446 = (4, .bipush 7, 2) := by decide +kernel
theorem xc128_448 : tt_cd 128 448 = (2, .iadd, 1) := by decide +kernel
theorem xc128_449 : tt_cd 128 449 = (4, .bipush 8, 2) := by decide +kernel
theorem xc128_451 : tt_cd 128 451 = (2, .idiv, 1) := by decide +kernel
theorem xc128_452 : tt_cd 128 452 = (6, .iastore, 1) := by decide +kernel
theorem xc128_453 : tt_cd 128 453 = (9, .return_, 1) := by decide +kernel
theorem xr128 : tt_mr 128 = 0 := by decide +kernel
def fz (T : Nat) : Nat → Nat
  | 0 => T
  | k + 1 => mv_wr 32 (fz T k) (80 + k) (mn_b 0)
theorem fz_rd (T : Nat) : ∀ k j, mv_rd 32 (fz T k) j = if 80 ≤ j ∧ j < 80 + k then 0 else mv_rd 32 T j
  | 0, j => by rw [if_neg (by omega)]; rfl
  | k + 1, j => by
    show mv_rd 32 (mv_wr 32 (fz T k) (80 + k) (mn_b 0)) j = _
    rw [mv_rd_wr]
    by_cases e : j = 80 + k
    · rw [if_pos e, if_pos (by omega)]; decide
    · rw [if_neg e, fz_rd T k j]
      by_cases h : 80 ≤ j ∧ j < 80 + k
      · rw [if_pos h, if_pos (by omega)]
      · rw [if_neg h, if_neg (by omega)]
theorem fb_81 (F v K : Nat) : mv_rd 32 (fb F v K) 81 = mn_b (mn_b (mo_or (mv_rd 32 F 81) (mo_shl v K))) % 2 ^ 32 := by
  unfold fb
  rw [mv_rd_self]
theorem fb_o (F v K : Nat) {j : Nat} (h : j ≠ 81) : mv_rd 32 (fb F v K) j = mv_rd 32 F j := by
  unfold fb
  rw [mv_rd_ne h]
/-- the filter's row -/
def ff (Fl : Nat) : Nat := fb (fb (fb (fb (fb (fb (fb (mv_wr 32 (fz Fl 80) 80 (mn_b 4294967297)) 0 7) 0 6) 1 5) 1 4) 0 3) 0 2) 0 1
theorem ff_0 (Fl : Nat) : mv_rd 32 (ff Fl) (80 + 0) = 1 := by
  unfold ff
  rw [show 80 + 0 = 80 from rfl]
  repeat rw [fb_o _ _ _ (by decide)]
  rw [mv_rd_self]
  decide
theorem ff_1 (Fl : Nat) : mv_rd 32 (ff Fl) (80 + 1) = 48 := by
  unfold ff
  rw [show 80 + 1 = 81 from rfl]
  repeat rw [fb_81]
  rw [mv_rd_ne (by decide), fz_rd, if_pos (by decide)]
  decide
section QK
variable {n : Nat} {pl : Nat → Nat} {w0 w : mv_T 10} {X0 Pc Wd Vv St Af Mi Hd Bi Bf Hg Tm Bo Wk Pn Bs Mt Pst Ppl Psz Bb Pid So Fn Fc Fl Fs Ou Ly No Bu th up lp sc ba : Nat}
theorem wq_mf (hw : wh 32 pl w0 w [(0, 0, 107, X0), (1, 1, 64, Pc), (1, 0, 64, mc_K), (1, 0, 64, Wd), (1, 0, 8, Vv), (1, 0, 8, St), (1, 0, 8, Af), (1, 1, 32, Mi), (1, 1, 4200, Hd), (1, 1, 1280, Bi), (1, 0, 40, Bf), (1, 0, 40, Hg), (1, 0, 40, Tm), (1, 0, 40, Bo), (1, 0, 40, Wk), (1, 0, 40, Pn), (1, 0, 40, Bs), (1, 1, 28, Mt), (1, 0, 160, Pst), (1, 0, 160, Ppl), (1, 0, 160, Psz), (1, 1, 76000, Bb), (1, 1, 5120, Pid), (1, 1, 600, So), (1, 0, 960, Fn), (1, 0, 40, Fc), (1, 1, 3200, Fl), (1, 0, 40, Fs), (1, 1, 32, Ou), (1, 1, 2400, Ly), (1, 0, 40, No), (1, 1, 20, Bu)]) (hX0 : fh X0 jQ [(0, th, 0), (2, pl 1, 0), (2, pl 2, 0), (2, pl 3, 0), (2, pl 4, 0), (2, pl 5, 0), (2, pl 6, 0), (2, pl 7, 0), (0, up, 0), (1, lp, 0), (2, pl 8, 0), (2, pl 9, 0), (2, pl 10, 0), (2, pl 11, 0), (2, pl 12, 0), (2, pl 13, 0), (2, pl 14, 0), (2, pl 15, 0), (2, pl 16, 0), (2, pl 17, 0), (2, pl 18, 0), (2, pl 19, 0), (2, pl 20, 0), (2, pl 21, 0), (2, pl 22, 0), (2, pl 23, 0), (2, pl 24, 0), (2, pl 25, 0), (2, pl 26, 0), (2, pl 27, 0), (2, pl 28, 0), (2, pl 29, 0), (2, pl 30, 0), (2, pl 31, 0), (0, 1, 0), (0, 0, 0), (0, sc, 0), (0, ba, 0), (0, 0, 0)]) (hA : ∀ i, i < 8 → mv_rd 32 Af i = mv_rd 32 hs_S0 i) {fk fm : Nat → Nat} (hfk : ∀ j, j < 32 → mv_rd 32 Hd (105 + j) = fk j) (hfm : ∀ j, j < 20 → mv_rd 32 (mo_T So 0 Bb 1908 20) (0 + j) = fm j) (hV : ∀ T : Nat, (∀ j, j < 32 → mv_rd 32 T j = bk_D (hm fk fm 20) j) → wo_0 T = 1634279031) (hpn : mv_rd 32 Pn 1 = 1) (hps : mv_rd 32 Pst 4 = 0) (hb0 : mv_rd 32 Bb 1900 = 0) (hb3 : mv_rd 32 Bb 1903 = 1) : sy_D 128 n 6 152 [(2, pl 0, 0), (0, 1, 0)] w (fun ret w' => ret = [] ∧ ∃ Y0 P1 W1 V1 S1 M1 T1 u1 l1 : Nat, wh 32 pl w0 w' [(0, 0, 107, Y0), (1, 1, 64, P1), (1, 0, 64, mc_K), (1, 0, 64, W1), (1, 0, 8, V1), (1, 0, 8, S1), (1, 0, 8, Af), (1, 1, 32, M1), (1, 1, 4200, Hd), (1, 1, 1280, Bi), (1, 0, 40, Bf), (1, 0, 40, Hg), (1, 0, 40, Tm), (1, 0, 40, Bo), (1, 0, 40, Wk), (1, 0, 40, (mv_wr 32 (mv_wr 32 Pn 1 0) 1 1)), (1, 0, 40, Bs), (1, 1, 28, Mt), (1, 0, 160, Pst), (1, 0, 160, Ppl), (1, 0, 160, Psz), (1, 1, 76000, Bb), (1, 1, 5120, Pid), (1, 1, 600, (mo_T So 0 Bb 1908 20)), (1, 0, 960, (mv_wr 32 Fn 24 24)), (1, 0, 40, (mv_wr 32 Fc 1 1)), (1, 1, 3200, (ff Fl)), (1, 0, 40, (mv_wr 32 Fs 1 2)), (1, 1, 32, T1), (1, 1, 2400, Ly), (1, 0, 40, No), (1, 1, 20, Bu)] ∧ fh Y0 jQ [(0, th, 0), (2, pl 1, 0), (2, pl 2, 0), (2, pl 3, 0), (2, pl 4, 0), (2, pl 5, 0), (2, pl 6, 0), (2, pl 7, 0), (0, u1, 0), (1, l1, 0), (2, pl 8, 0), (2, pl 9, 0), (2, pl 10, 0), (2, pl 11, 0), (2, pl 12, 0), (2, pl 13, 0), (2, pl 14, 0), (2, pl 15, 0), (2, pl 16, 0), (2, pl 17, 0), (2, pl 18, 0), (2, pl 19, 0), (2, pl 20, 0), (2, pl 21, 0), (2, pl 22, 0), (2, pl 23, 0), (2, pl 24, 0), (2, pl 25, 0), (2, pl 26, 0), (2, pl 27, 0), (2, pl 28, 0), (2, pl 29, 0), (2, pl 30, 0), (2, pl 31, 0), (0, 1, 0), (0, 0, 0), (0, 1, 0), (0, 15, 0), (0, 0, 0)]) := by
  refine sy_Dof (us := [(255, 0, 0), (255, 0, 0), (255, 0, 0), (255, 0, 0), (255, 0, 0), (255, 0, 0)]) (sy_oks_cons (sy_ok2 (wh_lt hw 0 (by first | decide | assumption))) (sy_oks_cons (sy_ok0 (by first | decide | assumption | omega | exact mo_rd_lt _ _ | exact mo_add_lt _ _ | exact mo_sub_lt _ _ | exact mo_mul_lt _ _ | exact mo_shl_lt _ _ | exact mo_ushr_lt _ _ | exact mo_or_lt (by decide) (mo_and_lt (mo_rd_lt _ _)) | exact mo_or_lt (mo_shl_lt _ _) (mo_and_lt (mo_rd_lt _ _)))) sy_oks_nil)) rfl rfl ?_
  show sy_F 128 n 6 152 0 [(2, pl 0, 0), (0, 1, 0), (255, 0, 0), (255, 0, 0), (255, 0, 0), (255, 0, 0), (255, 0, 0), (255, 0, 0)] [] w _
  refine sy_Fs (sy_aldn xc128_0 rfl rfl sy_refl) ?_
  refine sy_Fs (sy_iconst (v := 0) xc128_1 (by decide) sy_refl) ?_
  refine sy_Ff (i := 0) (q := 36) (v := (0, 0, 0)) hw hX0 (by decide) (by decide) rfl (sy_ok0 (by first | decide | assumption | omega | exact mo_rd_lt _ _ | exact mo_add_lt _ _ | exact mo_sub_lt _ _ | exact mo_mul_lt _ _ | exact mo_shl_lt _ _ | exact mo_ushr_lt _ _ | exact mo_or_lt (by decide) (mo_and_lt (mo_rd_lt _ _)) | exact mo_or_lt (mo_shl_lt _ _) (mo_and_lt (mo_rd_lt _ _)))) (sy_pfi xc128_2 xf128_616 rfl xt0_60 xn0_60 (wh_at hw 0 rfl) rfl (by first | decide | assumption | omega | exact mo_rd_lt _ _ | exact mo_add_lt _ _ | exact mo_sub_lt _ _ | exact mo_mul_lt _ _ | exact mo_shl_lt _ _ | exact mo_ushr_lt _ _ | exact mo_or_lt (by decide) (mo_and_lt (mo_rd_lt _ _)) | exact mo_or_lt (mo_shl_lt _ _) (mo_and_lt (mo_rd_lt _ _))) rfl sy_refl) ?_
  intro w X0 hw hX0
  simp only [List.set_cons_zero, List.set_cons_succ] at hw hX0
  refine sy_Fs (sy_aldn xc128_5 rfl rfl sy_refl) ?_
  refine sy_Fs (sy_gf xc128_6 xf128_376 rfl (wh_at hw 0 rfl) rfl (fh_at hX0 17 rfl rfl) sy_refl) ?_
  refine sy_Fs (sy_ildn xc128_9 rfl rfl sy_refl) ?_
  refine sy_Fs (sx_ial (z := 1) xc128_10 (wh_at hw 15 rfl) (by decide) (by decide) hpn) ?_
  refine sy_Fs (sx_istn (j := 2) (ls' := [(2, pl 0, 0), (0, 1, 0), (0, 1, 0), (255, 0, 0), (255, 0, 0), (255, 0, 0), (255, 0, 0), (255, 0, 0)]) xc128_11 rfl rfl (sy_ok0 (by first | decide | assumption | omega | exact mo_rd_lt _ _ | exact mo_add_lt _ _ | exact mo_sub_lt _ _ | exact mo_mul_lt _ _ | exact mo_shl_lt _ _ | exact mo_ushr_lt _ _ | exact mo_or_lt (by decide) (mo_and_lt (mo_rd_lt _ _)) | exact mo_or_lt (mo_shl_lt _ _) (mo_and_lt (mo_rd_lt _ _)))) (by rw [xl128]; rfl) rfl rfl) ?_
  refine sy_Fs (sy_iconst (v := 0) xc128_12 (by decide) sy_refl) ?_
  refine sy_Fs (sx_istn (j := 3) (ls' := [(2, pl 0, 0), (0, 1, 0), (0, 1, 0), (0, 0, 0), (255, 0, 0), (255, 0, 0), (255, 0, 0), (255, 0, 0)]) xc128_13 rfl rfl (sy_ok0 (by first | decide | assumption | omega | exact mo_rd_lt _ _ | exact mo_add_lt _ _ | exact mo_sub_lt _ _ | exact mo_mul_lt _ _ | exact mo_shl_lt _ _ | exact mo_ushr_lt _ _ | exact mo_or_lt (by decide) (mo_and_lt (mo_rd_lt _ _)) | exact mo_or_lt (mo_shl_lt _ _) (mo_and_lt (mo_rd_lt _ _)))) (by rw [xl128]; rfl) rfl rfl) ?_
  refine sy_Fs (sy_ildn xc128_14 rfl rfl sy_refl) ?_
  refine sy_Fs (sy_ildn xc128_15 rfl rfl sy_refl) ?_
  refine sy_Fs (sy_ge_f xc128_16 (by decide) (by decide) (by decide) sy_refl) ?_
  refine sy_Fs (sy_aldn xc128_19 rfl rfl sy_refl) ?_
  refine sy_Fs (sy_ildn xc128_20 rfl rfl sy_refl) ?_
  refine sy_Fs (sy_ildn xc128_21 rfl rfl sy_refl) ?_
  refine sy_Fs (sy_callG (kd := 3) (as := [(2, pl 0, 0), (0, 1, 0), (0, 0, 0)]) (S0 := []) (ret := [(0, 1900, 0)]) xc128_22 (sy_calV (as := [(2, pl 0, 0), (0, 1, 0), (0, 0, 0)]) (S0 := []) xm128_588 rfl rfl) rfl rfl (sy_rcvm xi115 (wh_at hw 0 rfl)) rfl (sy_oka (sy_oks_cons (sy_ok2 (wh_lt hw 0 (by first | decide | assumption))) (sy_oks_cons (sy_ok0 (by first | decide | assumption | omega | exact mo_rd_lt _ _ | exact mo_add_lt _ _ | exact mo_sub_lt _ _ | exact mo_mul_lt _ _ | exact mo_shl_lt _ _ | exact mo_ushr_lt _ _ | exact mo_or_lt (by decide) (mo_and_lt (mo_rd_lt _ _)) | exact mo_or_lt (mo_shl_lt _ _) (mo_and_lt (mo_rd_lt _ _)))) (sy_oks_cons (sy_ok0 (by first | decide | assumption | omega | exact mo_rd_lt _ _ | exact mo_add_lt _ _ | exact mo_sub_lt _ _ | exact mo_mul_lt _ _ | exact mo_shl_lt _ _ | exact mo_ushr_lt _ _ | exact mo_or_lt (by decide) (mo_and_lt (mo_rd_lt _ _)) | exact mo_or_lt (mo_shl_lt _ _) (mo_and_lt (mo_rd_lt _ _)))) sy_oks_nil))) rfl xl115) (sy_Cw (wq_pa (n := n) hw hX0 hps)) (by decide) (by rw [xl115]; decide) sy_refl) ?_
  refine sy_Fs (sx_ist (j := 4) (ls' := [(2, pl 0, 0), (0, 1, 0), (0, 1, 0), (0, 0, 0), (0, 1900, 0), (255, 0, 0), (255, 0, 0), (255, 0, 0)]) xc128_25 rfl (sy_ok0 (by first | decide | assumption | omega | exact mo_rd_lt _ _ | exact mo_add_lt _ _ | exact mo_sub_lt _ _ | exact mo_mul_lt _ _ | exact mo_shl_lt _ _ | exact mo_ushr_lt _ _ | exact mo_or_lt (by decide) (mo_and_lt (mo_rd_lt _ _)) | exact mo_or_lt (mo_shl_lt _ _) (mo_and_lt (mo_rd_lt _ _)))) (by rw [xl128]; rfl) rfl rfl) ?_
  refine sy_Fs (sy_iconst (v := 0) xc128_27 (by decide) sy_refl) ?_
  refine sy_Fs (sx_ist (j := 5) (ls' := [(2, pl 0, 0), (0, 1, 0), (0, 1, 0), (0, 0, 0), (0, 1900, 0), (0, 0, 0), (255, 0, 0), (255, 0, 0)]) xc128_28 rfl (sy_ok0 (by first | decide | assumption | omega | exact mo_rd_lt _ _ | exact mo_add_lt _ _ | exact mo_sub_lt _ _ | exact mo_mul_lt _ _ | exact mo_shl_lt _ _ | exact mo_ushr_lt _ _ | exact mo_or_lt (by decide) (mo_and_lt (mo_rd_lt _ _)) | exact mo_or_lt (mo_shl_lt _ _) (mo_and_lt (mo_rd_lt _ _)))) (by rw [xl128]; rfl) rfl rfl) ?_
  refine sy_Fs (sy_ild xc128_30 rfl rfl sy_refl) ?_
  refine sy_Fs (sy_aldn xc128_32 rfl rfl sy_refl) ?_
  refine sy_Fs (sy_gf xc128_33 xf128_361 rfl (wh_at hw 0 rfl) rfl (fh_at hX0 23 rfl rfl) sy_refl) ?_
  refine sy_Fs (sy_ild xc128_36 rfl rfl sy_refl) ?_
  refine sy_Fs (sy_callG (kd := 1) (as := [(2, pl 21, 0), (0, 1900, 0)]) (S0 := [(0, 0, 0)]) (ret := [(0, 1, 0)]) xc128_38 (sy_calS (as := [(2, pl 21, 0), (0, 1900, 0)]) (S0 := [(0, 0, 0)]) xm128_591 rfl rfl) rfl rfl rfl rfl (sy_oka (sy_oks_cons (sy_ok2 (wh_lt hw 21 (by first | decide | assumption))) (sy_oks_cons (sy_ok0 (by first | decide | assumption | omega | exact mo_rd_lt _ _ | exact mo_add_lt _ _ | exact mo_sub_lt _ _ | exact mo_mul_lt _ _ | exact mo_shl_lt _ _ | exact mo_ushr_lt _ _ | exact mo_or_lt (by decide) (mo_and_lt (mo_rd_lt _ _)) | exact mo_or_lt (mo_shl_lt _ _) (mo_and_lt (mo_rd_lt _ _)))) sy_oks_nil)) rfl xl118) (sy_Cw (wq_os (n := n) hw hX0 hb0 hb3)) (by decide) (by rw [xl118]; decide) sy_refl) ?_
  refine sy_Fs (sy_ge_f xc128_41 (by decide) (by decide) (by decide) sy_refl) ?_
  refine sy_Fs (sy_aldn xc128_44 rfl rfl sy_refl) ?_
  refine sy_Fs (sy_aldn xc128_45 rfl rfl sy_refl) ?_
  refine sy_Fs (sy_gf xc128_46 xf128_361 rfl (wh_at hw 0 rfl) rfl (fh_at hX0 23 rfl rfl) sy_refl) ?_
  refine sy_Fs (sy_ild xc128_49 rfl rfl sy_refl) ?_
  refine sy_Fs (sy_ild xc128_51 rfl rfl sy_refl) ?_
  refine sy_Fs (sy_callG (kd := 1) (as := [(2, pl 21, 0), (0, 1900, 0), (0, 0, 0)]) (S0 := [(2, pl 0, 0)]) (ret := [(0, 1904, 0)]) xc128_53 (sy_calS (as := [(2, pl 21, 0), (0, 1900, 0), (0, 0, 0)]) (S0 := [(2, pl 0, 0)]) xm128_594 rfl rfl) rfl rfl rfl rfl (sy_oka (sy_oks_cons (sy_ok2 (wh_lt hw 21 (by first | decide | assumption))) (sy_oks_cons (sy_ok0 (by first | decide | assumption | omega | exact mo_rd_lt _ _ | exact mo_add_lt _ _ | exact mo_sub_lt _ _ | exact mo_mul_lt _ _ | exact mo_shl_lt _ _ | exact mo_ushr_lt _ _ | exact mo_or_lt (by decide) (mo_and_lt (mo_rd_lt _ _)) | exact mo_or_lt (mo_shl_lt _ _) (mo_and_lt (mo_rd_lt _ _)))) (sy_oks_cons (sy_ok0 (by first | decide | assumption | omega | exact mo_rd_lt _ _ | exact mo_add_lt _ _ | exact mo_sub_lt _ _ | exact mo_mul_lt _ _ | exact mo_shl_lt _ _ | exact mo_ushr_lt _ _ | exact mo_or_lt (by decide) (mo_and_lt (mo_rd_lt _ _)) | exact mo_or_lt (mo_shl_lt _ _) (mo_and_lt (mo_rd_lt _ _)))) sy_oks_nil))) rfl xl120) (sy_Cw (wq_ot (n := n) hw hX0 hb0 hb3)) (by decide) (by rw [xl120]; decide) sy_refl) ?_
  refine sy_Fs (sy_iconst (v := 4) xc128_56 (by decide) sy_refl) ?_
  refine sy_Fs (sx_iadd (z := 1908) xc128_57 (by decide)) ?_
  obtain ⟨ret, w, ⟨rfl, X0, hw1, hX1x⟩, hC⟩ := wq_add (n := n) hw hX0
  refine sy_Fs (sy_callG (kd := 3) (as := [(2, pl 0, 0), (0, 1908, 0)]) (S0 := []) (ret := []) xc128_58 (sy_calV (as := [(2, pl 0, 0), (0, 1908, 0)]) (S0 := []) xm128_622 rfl rfl) rfl rfl (sy_rcvm xi129 (wh_at hw 0 rfl)) rfl (sy_oka (sy_oks_cons (sy_ok2 (wh_lt hw 0 (by first | decide | assumption))) (sy_oks_cons (sy_ok0 (by first | decide | assumption | omega | exact mo_rd_lt _ _ | exact mo_add_lt _ _ | exact mo_sub_lt _ _ | exact mo_mul_lt _ _ | exact mo_shl_lt _ _ | exact mo_ushr_lt _ _ | exact mo_or_lt (by decide) (mo_and_lt (mo_rd_lt _ _)) | exact mo_or_lt (mo_shl_lt _ _) (mo_and_lt (mo_rd_lt _ _)))) sy_oks_nil)) rfl xl129) hC (by decide) (by rw [xl129]; decide) sy_refl) ?_
  replace hw := hw1
  replace hX0 := hX1x
  refine sy_Fs (sx_iinc (c := 1) (z := 1) (ls' := [(2, pl 0, 0), (0, 1, 0), (0, 1, 0), (0, 0, 0), (0, 1900, 0), (0, 1, 0), (255, 0, 0), (255, 0, 0)]) xc128_61 rfl (by decide) (by rw [xl128]; rfl) rfl (by decide) rfl) ?_
  refine sy_Fs (sy_goto (pc' := 30) xc128_64 (by decide) (by decide) sy_refl) ?_
  refine sy_Fs (sy_ild xc128_30 rfl rfl sy_refl) ?_
  refine sy_Fs (sy_aldn xc128_32 rfl rfl sy_refl) ?_
  refine sy_Fs (sy_gf xc128_33 xf128_361 rfl (wh_at hw 0 rfl) rfl (fh_at hX0 23 rfl rfl) sy_refl) ?_
  refine sy_Fs (sy_ild xc128_36 rfl rfl sy_refl) ?_
  refine sy_Fs (sy_callG (kd := 1) (as := [(2, pl 21, 0), (0, 1900, 0)]) (S0 := [(0, 1, 0)]) (ret := [(0, 1, 0)]) xc128_38 (sy_calS (as := [(2, pl 21, 0), (0, 1900, 0)]) (S0 := [(0, 1, 0)]) xm128_591 rfl rfl) rfl rfl rfl rfl (sy_oka (sy_oks_cons (sy_ok2 (wh_lt hw 21 (by first | decide | assumption))) (sy_oks_cons (sy_ok0 (by first | decide | assumption | omega | exact mo_rd_lt _ _ | exact mo_add_lt _ _ | exact mo_sub_lt _ _ | exact mo_mul_lt _ _ | exact mo_shl_lt _ _ | exact mo_ushr_lt _ _ | exact mo_or_lt (by decide) (mo_and_lt (mo_rd_lt _ _)) | exact mo_or_lt (mo_shl_lt _ _) (mo_and_lt (mo_rd_lt _ _)))) sy_oks_nil)) rfl xl118) (sy_Cw (wq_os (n := n) hw hX0 hb0 hb3)) (by decide) (by rw [xl118]; decide) sy_refl) ?_
  refine sy_Fs (sy_ge_t (pc' := 67) xc128_41 (by decide) (by decide) (by decide) (by decide) sy_refl) ?_
  refine sy_Fs (sy_aldn xc128_67 rfl rfl sy_refl) ?_
  refine sy_Fs (sy_gf xc128_68 xf128_376 rfl (wh_at hw 0 rfl) rfl (fh_at hX0 17 rfl rfl) sy_refl) ?_
  refine sy_Fs (sy_ildn xc128_71 rfl rfl sy_refl) ?_
  refine sy_Fs (sy_ildn xc128_72 rfl rfl sy_refl) ?_
  refine sy_Fw (i := 15) (x := (1, 0, 40, (mv_wr 32 Pn 1 0))) hw (by decide) (sy_ias (i := 1) xc128_73 (wh_at hw 15 rfl) rfl (by decide) (by decide) rfl sy_refl) ?_
  intro w hw
  simp only [List.set_cons_zero, List.set_cons_succ] at hw
  refine sy_Fs (sy_iconst (v := 0) xc128_74 (by decide) sy_refl) ?_
  refine sy_Fs (sx_ist (j := 5) (ls' := [(2, pl 0, 0), (0, 1, 0), (0, 1, 0), (0, 0, 0), (0, 1900, 0), (0, 0, 0), (255, 0, 0), (255, 0, 0)]) xc128_75 rfl (sy_ok0 (by first | decide | assumption | omega | exact mo_rd_lt _ _ | exact mo_add_lt _ _ | exact mo_sub_lt _ _ | exact mo_mul_lt _ _ | exact mo_shl_lt _ _ | exact mo_ushr_lt _ _ | exact mo_or_lt (by decide) (mo_and_lt (mo_rd_lt _ _)) | exact mo_or_lt (mo_shl_lt _ _) (mo_and_lt (mo_rd_lt _ _)))) (by rw [xl128]; rfl) rfl rfl) ?_
  refine sy_Fs (sy_ild xc128_77 rfl rfl sy_refl) ?_
  refine sy_Fs (sy_aldn xc128_79 rfl rfl sy_refl) ?_
  refine sy_Fs (sy_gf xc128_80 xf128_361 rfl (wh_at hw 0 rfl) rfl (fh_at hX0 23 rfl rfl) sy_refl) ?_
  refine sy_Fs (sy_ild xc128_83 rfl rfl sy_refl) ?_
  refine sy_Fs (sy_callG (kd := 1) (as := [(2, pl 21, 0), (0, 1900, 0)]) (S0 := [(0, 0, 0)]) (ret := [(0, 0, 0)]) xc128_85 (sy_calS (as := [(2, pl 21, 0), (0, 1900, 0)]) (S0 := [(0, 0, 0)]) xm128_601 rfl rfl) rfl rfl rfl rfl (sy_oka (sy_oks_cons (sy_ok2 (wh_lt hw 21 (by first | decide | assumption))) (sy_oks_cons (sy_ok0 (by first | decide | assumption | omega | exact mo_rd_lt _ _ | exact mo_add_lt _ _ | exact mo_sub_lt _ _ | exact mo_mul_lt _ _ | exact mo_shl_lt _ _ | exact mo_ushr_lt _ _ | exact mo_or_lt (by decide) (mo_and_lt (mo_rd_lt _ _)) | exact mo_or_lt (mo_shl_lt _ _) (mo_and_lt (mo_rd_lt _ _)))) sy_oks_nil)) rfl xl117) (sy_Cw (wq_in (n := n) hw hX0 hb0 hb3)) (by decide) (by rw [xl117]; decide) sy_refl) ?_
  refine sy_Fs (sy_ge_t (pc' := 147) xc128_88 (by decide) (by decide) (by decide) (by decide) sy_refl) ?_
  refine sy_Fs (sy_aldn xc128_147 rfl rfl sy_refl) ?_
  refine sy_Fs (sy_gf xc128_148 xf128_376 rfl (wh_at hw 0 rfl) rfl (fh_at hX0 17 rfl rfl) sy_refl) ?_
  refine sy_Fs (sy_ildn xc128_151 rfl rfl sy_refl) ?_
  refine sy_Fs (sy_ildn xc128_152 rfl rfl sy_refl) ?_
  refine sy_Fw (i := 15) (x := (1, 0, 40, (mv_wr 32 (mv_wr 32 Pn 1 0) 1 1))) hw (by decide) (sy_ias (i := 1) xc128_153 (wh_at hw 15 rfl) rfl (by decide) (by decide) rfl sy_refl) ?_
  intro w hw
  simp only [List.set_cons_zero, List.set_cons_succ] at hw
  refine sy_Fs (sx_iinc (c := 1) (z := 1) (ls' := [(2, pl 0, 0), (0, 1, 0), (0, 1, 0), (0, 1, 0), (0, 1900, 0), (0, 0, 0), (255, 0, 0), (255, 0, 0)]) xc128_154 rfl (by decide) (by rw [xl128]; rfl) rfl (by decide) rfl) ?_
  refine sy_Fs (sy_goto (pc' := 14) xc128_157 (by decide) (by decide) sy_refl) ?_
  refine sy_Fs (sy_ildn xc128_14 rfl rfl sy_refl) ?_
  refine sy_Fs (sy_ildn xc128_15 rfl rfl sy_refl) ?_
  refine sy_Fs (sy_ge_t (pc' := 160) xc128_16 (by decide) (by decide) (by decide) (by decide) sy_refl) ?_
  refine sy_Fs (sy_aldn xc128_160 rfl rfl sy_refl) ?_
  refine sy_Fs (sy_gf xc128_161 xf128_616 rfl (wh_at hw 0 rfl) rfl (fh_at hX0 36 rfl rfl) sy_refl) ?_
  refine sy_Fs (sx_istn (j := 3) (ls' := [(2, pl 0, 0), (0, 1, 0), (0, 1, 0), (0, 1, 0), (0, 1900, 0), (0, 0, 0), (255, 0, 0), (255, 0, 0)]) xc128_164 rfl rfl (sy_ok0 (by first | decide | assumption | omega | exact mo_rd_lt _ _ | exact mo_add_lt _ _ | exact mo_sub_lt _ _ | exact mo_mul_lt _ _ | exact mo_shl_lt _ _ | exact mo_ushr_lt _ _ | exact mo_or_lt (by decide) (mo_and_lt (mo_rd_lt _ _)) | exact mo_or_lt (mo_shl_lt _ _) (mo_and_lt (mo_rd_lt _ _)))) (by rw [xl128]; rfl) rfl rfl) ?_
  refine sy_Fs (sy_iconst (v := 0) xc128_165 (by decide) sy_refl) ?_
  refine sy_Fs (sx_ist (j := 4) (ls' := [(2, pl 0, 0), (0, 1, 0), (0, 1, 0), (0, 1, 0), (0, 0, 0), (0, 0, 0), (255, 0, 0), (255, 0, 0)]) xc128_166 rfl (sy_ok0 (by first | decide | assumption | omega | exact mo_rd_lt _ _ | exact mo_add_lt _ _ | exact mo_sub_lt _ _ | exact mo_mul_lt _ _ | exact mo_shl_lt _ _ | exact mo_ushr_lt _ _ | exact mo_or_lt (by decide) (mo_and_lt (mo_rd_lt _ _)) | exact mo_or_lt (mo_shl_lt _ _) (mo_and_lt (mo_rd_lt _ _)))) (by rw [xl128]; rfl) rfl rfl) ?_
  refine sy_Fs (sy_ild xc128_168 rfl rfl sy_refl) ?_
  refine sy_Fs (sy_ildn xc128_170 rfl rfl sy_refl) ?_
  refine sy_Fs (sy_ge_f xc128_171 (by decide) (by decide) (by decide) sy_refl) ?_
  refine sy_Fs (sy_aldn xc128_174 rfl rfl sy_refl) ?_
  refine sy_Fs (sy_aldn xc128_175 rfl rfl sy_refl) ?_
  refine sy_Fs (sy_gf xc128_176 xf128_382 rfl (wh_at hw 0 rfl) rfl (fh_at hX0 10 rfl rfl) sy_refl) ?_
  refine sy_Fs (sy_bipush (v := 105) xc128_179 (by decide) (by decide) sy_refl) ?_
  refine sy_Fs (sy_ildn xc128_181 rfl rfl sy_refl) ?_
  refine sy_Fs (sx_imul (z := 105) xc128_182 (by decide)) ?_
  refine sy_Fs (sy_aldn xc128_183 rfl rfl sy_refl) ?_
  refine sy_Fs (sy_gf xc128_184 xf128_439 rfl (wh_at hw 0 rfl) rfl (fh_at hX0 25 rfl rfl) sy_refl) ?_
  refine sy_Fs (sy_bipush (v := 20) xc128_187 (by decide) (by decide) sy_refl) ?_
  refine sy_Fs (sy_ild xc128_189 rfl rfl sy_refl) ?_
  refine sy_Fs (sx_imul (z := 0) xc128_191 (by decide)) ?_
  refine sy_Fs (sy_ildn xc128_192 rfl rfl sy_refl) ?_
  obtain ⟨ret, w, ⟨rfl, X0, P1, W1, V1, S1, M1, T1, u1, l1, hw1, hX1x⟩, hC⟩ := wq_fv (n := n) hw hX0 hA hfk hfm hV
  refine sy_Fs (sy_callG (kd := 3) (as := [(2, pl 0, 0), (2, pl 8, 0), (0, 105, 0), (2, pl 23, 0), (0, 0, 0), (0, 1, 0)]) (S0 := []) (ret := [(0, 24, 0)]) xc128_193 (sy_calV (as := [(2, pl 0, 0), (2, pl 8, 0), (0, 105, 0), (2, pl 23, 0), (0, 0, 0), (0, 1, 0)]) (S0 := []) xm128_625 rfl rfl) rfl rfl (sy_rcvm xi114 (wh_at hw 0 rfl)) rfl (sy_oka (sy_oks_cons (sy_ok2 (wh_lt hw 0 (by first | decide | assumption))) (sy_oks_cons (sy_ok2 (wh_lt hw 8 (by first | decide | assumption))) (sy_oks_cons (sy_ok0 (by first | decide | assumption | omega | exact mo_rd_lt _ _ | exact mo_add_lt _ _ | exact mo_sub_lt _ _ | exact mo_mul_lt _ _ | exact mo_shl_lt _ _ | exact mo_ushr_lt _ _ | exact mo_or_lt (by decide) (mo_and_lt (mo_rd_lt _ _)) | exact mo_or_lt (mo_shl_lt _ _) (mo_and_lt (mo_rd_lt _ _)))) (sy_oks_cons (sy_ok2 (wh_lt hw 23 (by first | decide | assumption))) (sy_oks_cons (sy_ok0 (by first | decide | assumption | omega | exact mo_rd_lt _ _ | exact mo_add_lt _ _ | exact mo_sub_lt _ _ | exact mo_mul_lt _ _ | exact mo_shl_lt _ _ | exact mo_ushr_lt _ _ | exact mo_or_lt (by decide) (mo_and_lt (mo_rd_lt _ _)) | exact mo_or_lt (mo_shl_lt _ _) (mo_and_lt (mo_rd_lt _ _)))) (sy_oks_cons (sy_ok0 (by first | decide | assumption | omega | exact mo_rd_lt _ _ | exact mo_add_lt _ _ | exact mo_sub_lt _ _ | exact mo_mul_lt _ _ | exact mo_shl_lt _ _ | exact mo_ushr_lt _ _ | exact mo_or_lt (by decide) (mo_and_lt (mo_rd_lt _ _)) | exact mo_or_lt (mo_shl_lt _ _) (mo_and_lt (mo_rd_lt _ _)))) sy_oks_nil)))))) rfl xl114) hC (by decide) (by rw [xl114]; decide) sy_refl) ?_
  replace hw := hw1
  replace hX0 := hX1x
  refine sy_Fs (sx_ist (j := 5) (ls' := [(2, pl 0, 0), (0, 1, 0), (0, 1, 0), (0, 1, 0), (0, 0, 0), (0, 24, 0), (255, 0, 0), (255, 0, 0)]) xc128_196 rfl (sy_ok0 (by first | decide | assumption | omega | exact mo_rd_lt _ _ | exact mo_add_lt _ _ | exact mo_sub_lt _ _ | exact mo_mul_lt _ _ | exact mo_shl_lt _ _ | exact mo_ushr_lt _ _ | exact mo_or_lt (by decide) (mo_and_lt (mo_rd_lt _ _)) | exact mo_or_lt (mo_shl_lt _ _) (mo_and_lt (mo_rd_lt _ _)))) (by rw [xl128]; rfl) rfl rfl) ?_
  refine sy_Fs (sy_ild xc128_198 rfl rfl sy_refl) ?_
  refine sy_Fs (sx_ist (j := 6) (ls' := [(2, pl 0, 0), (0, 1, 0), (0, 1, 0), (0, 1, 0), (0, 0, 0), (0, 24, 0), (0, 0, 0), (255, 0, 0)]) xc128_200 rfl (sy_ok0 (by first | decide | assumption | omega | exact mo_rd_lt _ _ | exact mo_add_lt _ _ | exact mo_sub_lt _ _ | exact mo_mul_lt _ _ | exact mo_shl_lt _ _ | exact mo_ushr_lt _ _ | exact mo_or_lt (by decide) (mo_and_lt (mo_rd_lt _ _)) | exact mo_or_lt (mo_shl_lt _ _) (mo_and_lt (mo_rd_lt _ _)))) (by rw [xl128]; rfl) rfl rfl) ?_
  refine sy_Fs (sy_ild xc128_202 rfl rfl sy_refl) ?_
  refine sy_Fs (sy_le_t (pc' := 258) xc128_204 (by decide)  (by decide) sy_refl) ?_
  refine sy_Fs (sy_aldn xc128_258 rfl rfl sy_refl) ?_
  refine sy_Fs (sy_gf xc128_259 xf128_412 rfl (wh_at hw 0 rfl) rfl (fh_at hX0 26 rfl rfl) sy_refl) ?_
  refine sy_Fs (sy_bipush (v := 24) xc128_262 (by decide) (by decide) sy_refl) ?_
  refine sy_Fs (sy_ildn xc128_264 rfl rfl sy_refl) ?_
  refine sy_Fs (sx_imul (z := 24) xc128_265 (by decide)) ?_
  refine sy_Fs (sy_ild xc128_266 rfl rfl sy_refl) ?_
  refine sy_Fs (sx_iadd (z := 24) xc128_268 (by decide)) ?_
  refine sy_Fs (sy_ild xc128_269 rfl rfl sy_refl) ?_
  refine sy_Fw (i := 24) (x := (1, 0, 960, (mv_wr 32 Fn 24 24))) hw (by decide) (sy_ias (i := 24) xc128_271 (wh_at hw 24 rfl) rfl (by decide) (by decide) rfl sy_refl) ?_
  intro w hw
  simp only [List.set_cons_zero, List.set_cons_succ] at hw
  refine sy_Fs (sx_iinc (c := 1) (z := 1) (ls' := [(2, pl 0, 0), (0, 1, 0), (0, 1, 0), (0, 1, 0), (0, 1, 0), (0, 24, 0), (0, 0, 0), (255, 0, 0)]) xc128_272 rfl (by decide) (by rw [xl128]; rfl) rfl (by decide) rfl) ?_
  refine sy_Fs (sy_goto (pc' := 168) xc128_275 (by decide) (by decide) sy_refl) ?_
  refine sy_Fs (sy_ild xc128_168 rfl rfl sy_refl) ?_
  refine sy_Fs (sy_ildn xc128_170 rfl rfl sy_refl) ?_
  refine sy_Fs (sy_ge_t (pc' := 278) xc128_171 (by decide) (by decide) (by decide) (by decide) sy_refl) ?_
  refine sy_Fs (sy_aldn xc128_278 rfl rfl sy_refl) ?_
  refine sy_Fs (sy_gf xc128_279 xf128_415 rfl (wh_at hw 0 rfl) rfl (fh_at hX0 27 rfl rfl) sy_refl) ?_
  refine sy_Fs (sy_ildn xc128_282 rfl rfl sy_refl) ?_
  refine sy_Fs (sy_ildn xc128_283 rfl rfl sy_refl) ?_
  refine sy_Fw (i := 25) (x := (1, 0, 40, (mv_wr 32 Fc 1 1))) hw (by decide) (sy_ias (i := 1) xc128_284 (wh_at hw 25 rfl) rfl (by decide) (by decide) rfl sy_refl) ?_
  intro w hw
  simp only [List.set_cons_zero, List.set_cons_succ] at hw
  refine sy_Fs (sy_iconst (v := 0) xc128_285 (by decide) sy_refl) ?_
  refine sy_Fs (sx_ist (j := 4) (ls' := [(2, pl 0, 0), (0, 1, 0), (0, 1, 0), (0, 1, 0), (0, 0, 0), (0, 24, 0), (0, 0, 0), (255, 0, 0)]) xc128_286 rfl (sy_ok0 (by first | decide | assumption | omega | exact mo_rd_lt _ _ | exact mo_add_lt _ _ | exact mo_sub_lt _ _ | exact mo_mul_lt _ _ | exact mo_shl_lt _ _ | exact mo_ushr_lt _ _ | exact mo_or_lt (by decide) (mo_and_lt (mo_rd_lt _ _)) | exact mo_or_lt (mo_shl_lt _ _) (mo_and_lt (mo_rd_lt _ _)))) (by rw [xl128]; rfl) rfl rfl) ?_
  refine sy_Fs (sy_ild xc128_288 rfl rfl sy_refl) ?_
  refine sy_Fs (sy_bipush (v := 80) xc128_290 (by decide) (by decide) sy_refl) ?_
  refine sy_Fs (sy_ge_f xc128_292 (by decide) (by decide) (by decide) sy_refl) ?_
  refine sy_Fs (sy_aldn xc128_295 rfl rfl sy_refl) ?_
  refine sy_Fs (sy_gf xc128_296 xf128_406 rfl (wh_at hw 0 rfl) rfl (fh_at hX0 28 rfl rfl) sy_refl) ?_
  refine sy_Fs (sy_bipush (v := 80) xc128_299 (by decide) (by decide) sy_refl) ?_
  refine sy_Fs (sy_ildn xc128_301 rfl rfl sy_refl) ?_
  refine sy_Fs (sx_imul (z := 80) xc128_302 (by decide)) ?_
  refine sy_Fs (sy_ild xc128_303 rfl rfl sy_refl) ?_
  refine sy_Fs (sx_iadd (z := 80) xc128_305 (by decide)) ?_
  refine sy_Fs (sy_iconst (v := 0) xc128_306 (by decide) sy_refl) ?_
  refine sy_Fw (i := 26) (x := (1, 1, 3200, (fz Fl 1))) hw (by decide) (sy_bas (i := 80) xc128_307 (wh_at hw 26 rfl) rfl (by decide) (by decide) rfl sy_refl) ?_
  intro w hw
  simp only [List.set_cons_zero, List.set_cons_succ] at hw
  refine sy_Fs (sx_iinc (c := 1) (z := 1) (ls' := [(2, pl 0, 0), (0, 1, 0), (0, 1, 0), (0, 1, 0), (0, 1, 0), (0, 24, 0), (0, 0, 0), (255, 0, 0)]) xc128_308 rfl (by decide) (by rw [xl128]; rfl) rfl (by decide) rfl) ?_
  refine sy_Fs (sy_goto (pc' := 288) xc128_311 (by decide) (by decide) sy_refl) ?_
  refine sy_Fs (sy_ild xc128_288 rfl rfl sy_refl) ?_
  refine sy_Fs (sy_bipush (v := 80) xc128_290 (by decide) (by decide) sy_refl) ?_
  refine sy_Fs (sy_ge_f xc128_292 (by decide) (by decide) (by decide) sy_refl) ?_
  refine sy_Fs (sy_aldn xc128_295 rfl rfl sy_refl) ?_
  refine sy_Fs (sy_gf xc128_296 xf128_406 rfl (wh_at hw 0 rfl) rfl (fh_at hX0 28 rfl rfl) sy_refl) ?_
  refine sy_Fs (sy_bipush (v := 80) xc128_299 (by decide) (by decide) sy_refl) ?_
  refine sy_Fs (sy_ildn xc128_301 rfl rfl sy_refl) ?_
  refine sy_Fs (sx_imul (z := 80) xc128_302 (by decide)) ?_
  refine sy_Fs (sy_ild xc128_303 rfl rfl sy_refl) ?_
  refine sy_Fs (sx_iadd (z := 81) xc128_305 (by decide)) ?_
  refine sy_Fs (sy_iconst (v := 0) xc128_306 (by decide) sy_refl) ?_
  refine sy_Fw (i := 26) (x := (1, 1, 3200, (fz Fl 2))) hw (by decide) (sy_bas (i := 81) xc128_307 (wh_at hw 26 rfl) rfl (by decide) (by decide) rfl sy_refl) ?_
  intro w hw
  simp only [List.set_cons_zero, List.set_cons_succ] at hw
  refine sy_Fs (sx_iinc (c := 1) (z := 2) (ls' := [(2, pl 0, 0), (0, 1, 0), (0, 1, 0), (0, 1, 0), (0, 2, 0), (0, 24, 0), (0, 0, 0), (255, 0, 0)]) xc128_308 rfl (by decide) (by rw [xl128]; rfl) rfl (by decide) rfl) ?_
  refine sy_Fs (sy_goto (pc' := 288) xc128_311 (by decide) (by decide) sy_refl) ?_
  refine sy_Fs (sy_ild xc128_288 rfl rfl sy_refl) ?_
  refine sy_Fs (sy_bipush (v := 80) xc128_290 (by decide) (by decide) sy_refl) ?_
  refine sy_Fs (sy_ge_f xc128_292 (by decide) (by decide) (by decide) sy_refl) ?_
  refine sy_Fs (sy_aldn xc128_295 rfl rfl sy_refl) ?_
  refine sy_Fs (sy_gf xc128_296 xf128_406 rfl (wh_at hw 0 rfl) rfl (fh_at hX0 28 rfl rfl) sy_refl) ?_
  refine sy_Fs (sy_bipush (v := 80) xc128_299 (by decide) (by decide) sy_refl) ?_
  refine sy_Fs (sy_ildn xc128_301 rfl rfl sy_refl) ?_
  refine sy_Fs (sx_imul (z := 80) xc128_302 (by decide)) ?_
  refine sy_Fs (sy_ild xc128_303 rfl rfl sy_refl) ?_
  refine sy_Fs (sx_iadd (z := 82) xc128_305 (by decide)) ?_
  refine sy_Fs (sy_iconst (v := 0) xc128_306 (by decide) sy_refl) ?_
  refine sy_Fw (i := 26) (x := (1, 1, 3200, (fz Fl 3))) hw (by decide) (sy_bas (i := 82) xc128_307 (wh_at hw 26 rfl) rfl (by decide) (by decide) rfl sy_refl) ?_
  intro w hw
  simp only [List.set_cons_zero, List.set_cons_succ] at hw
  refine sy_Fs (sx_iinc (c := 1) (z := 3) (ls' := [(2, pl 0, 0), (0, 1, 0), (0, 1, 0), (0, 1, 0), (0, 3, 0), (0, 24, 0), (0, 0, 0), (255, 0, 0)]) xc128_308 rfl (by decide) (by rw [xl128]; rfl) rfl (by decide) rfl) ?_
  refine sy_Fs (sy_goto (pc' := 288) xc128_311 (by decide) (by decide) sy_refl) ?_
  refine sy_Fs (sy_ild xc128_288 rfl rfl sy_refl) ?_
  refine sy_Fs (sy_bipush (v := 80) xc128_290 (by decide) (by decide) sy_refl) ?_
  refine sy_Fs (sy_ge_f xc128_292 (by decide) (by decide) (by decide) sy_refl) ?_
  refine sy_Fs (sy_aldn xc128_295 rfl rfl sy_refl) ?_
  refine sy_Fs (sy_gf xc128_296 xf128_406 rfl (wh_at hw 0 rfl) rfl (fh_at hX0 28 rfl rfl) sy_refl) ?_
  refine sy_Fs (sy_bipush (v := 80) xc128_299 (by decide) (by decide) sy_refl) ?_
  refine sy_Fs (sy_ildn xc128_301 rfl rfl sy_refl) ?_
  refine sy_Fs (sx_imul (z := 80) xc128_302 (by decide)) ?_
  refine sy_Fs (sy_ild xc128_303 rfl rfl sy_refl) ?_
  refine sy_Fs (sx_iadd (z := 83) xc128_305 (by decide)) ?_
  refine sy_Fs (sy_iconst (v := 0) xc128_306 (by decide) sy_refl) ?_
  refine sy_Fw (i := 26) (x := (1, 1, 3200, (fz Fl 4))) hw (by decide) (sy_bas (i := 83) xc128_307 (wh_at hw 26 rfl) rfl (by decide) (by decide) rfl sy_refl) ?_
  intro w hw
  simp only [List.set_cons_zero, List.set_cons_succ] at hw
  refine sy_Fs (sx_iinc (c := 1) (z := 4) (ls' := [(2, pl 0, 0), (0, 1, 0), (0, 1, 0), (0, 1, 0), (0, 4, 0), (0, 24, 0), (0, 0, 0), (255, 0, 0)]) xc128_308 rfl (by decide) (by rw [xl128]; rfl) rfl (by decide) rfl) ?_
  refine sy_Fs (sy_goto (pc' := 288) xc128_311 (by decide) (by decide) sy_refl) ?_
  refine sy_Fs (sy_ild xc128_288 rfl rfl sy_refl) ?_
  refine sy_Fs (sy_bipush (v := 80) xc128_290 (by decide) (by decide) sy_refl) ?_
  refine sy_Fs (sy_ge_f xc128_292 (by decide) (by decide) (by decide) sy_refl) ?_
  refine sy_Fs (sy_aldn xc128_295 rfl rfl sy_refl) ?_
  refine sy_Fs (sy_gf xc128_296 xf128_406 rfl (wh_at hw 0 rfl) rfl (fh_at hX0 28 rfl rfl) sy_refl) ?_
  refine sy_Fs (sy_bipush (v := 80) xc128_299 (by decide) (by decide) sy_refl) ?_
  refine sy_Fs (sy_ildn xc128_301 rfl rfl sy_refl) ?_
  refine sy_Fs (sx_imul (z := 80) xc128_302 (by decide)) ?_
  refine sy_Fs (sy_ild xc128_303 rfl rfl sy_refl) ?_
  refine sy_Fs (sx_iadd (z := 84) xc128_305 (by decide)) ?_
  refine sy_Fs (sy_iconst (v := 0) xc128_306 (by decide) sy_refl) ?_
  refine sy_Fw (i := 26) (x := (1, 1, 3200, (fz Fl 5))) hw (by decide) (sy_bas (i := 84) xc128_307 (wh_at hw 26 rfl) rfl (by decide) (by decide) rfl sy_refl) ?_
  intro w hw
  simp only [List.set_cons_zero, List.set_cons_succ] at hw
  refine sy_Fs (sx_iinc (c := 1) (z := 5) (ls' := [(2, pl 0, 0), (0, 1, 0), (0, 1, 0), (0, 1, 0), (0, 5, 0), (0, 24, 0), (0, 0, 0), (255, 0, 0)]) xc128_308 rfl (by decide) (by rw [xl128]; rfl) rfl (by decide) rfl) ?_
  refine sy_Fs (sy_goto (pc' := 288) xc128_311 (by decide) (by decide) sy_refl) ?_
  refine sy_Fs (sy_ild xc128_288 rfl rfl sy_refl) ?_
  refine sy_Fs (sy_bipush (v := 80) xc128_290 (by decide) (by decide) sy_refl) ?_
  refine sy_Fs (sy_ge_f xc128_292 (by decide) (by decide) (by decide) sy_refl) ?_
  refine sy_Fs (sy_aldn xc128_295 rfl rfl sy_refl) ?_
  refine sy_Fs (sy_gf xc128_296 xf128_406 rfl (wh_at hw 0 rfl) rfl (fh_at hX0 28 rfl rfl) sy_refl) ?_
  refine sy_Fs (sy_bipush (v := 80) xc128_299 (by decide) (by decide) sy_refl) ?_
  refine sy_Fs (sy_ildn xc128_301 rfl rfl sy_refl) ?_
  refine sy_Fs (sx_imul (z := 80) xc128_302 (by decide)) ?_
  refine sy_Fs (sy_ild xc128_303 rfl rfl sy_refl) ?_
  refine sy_Fs (sx_iadd (z := 85) xc128_305 (by decide)) ?_
  refine sy_Fs (sy_iconst (v := 0) xc128_306 (by decide) sy_refl) ?_
  refine sy_Fw (i := 26) (x := (1, 1, 3200, (fz Fl 6))) hw (by decide) (sy_bas (i := 85) xc128_307 (wh_at hw 26 rfl) rfl (by decide) (by decide) rfl sy_refl) ?_
  intro w hw
  simp only [List.set_cons_zero, List.set_cons_succ] at hw
  refine sy_Fs (sx_iinc (c := 1) (z := 6) (ls' := [(2, pl 0, 0), (0, 1, 0), (0, 1, 0), (0, 1, 0), (0, 6, 0), (0, 24, 0), (0, 0, 0), (255, 0, 0)]) xc128_308 rfl (by decide) (by rw [xl128]; rfl) rfl (by decide) rfl) ?_
  refine sy_Fs (sy_goto (pc' := 288) xc128_311 (by decide) (by decide) sy_refl) ?_
  refine sy_Fs (sy_ild xc128_288 rfl rfl sy_refl) ?_
  refine sy_Fs (sy_bipush (v := 80) xc128_290 (by decide) (by decide) sy_refl) ?_
  refine sy_Fs (sy_ge_f xc128_292 (by decide) (by decide) (by decide) sy_refl) ?_
  refine sy_Fs (sy_aldn xc128_295 rfl rfl sy_refl) ?_
  refine sy_Fs (sy_gf xc128_296 xf128_406 rfl (wh_at hw 0 rfl) rfl (fh_at hX0 28 rfl rfl) sy_refl) ?_
  refine sy_Fs (sy_bipush (v := 80) xc128_299 (by decide) (by decide) sy_refl) ?_
  refine sy_Fs (sy_ildn xc128_301 rfl rfl sy_refl) ?_
  refine sy_Fs (sx_imul (z := 80) xc128_302 (by decide)) ?_
  refine sy_Fs (sy_ild xc128_303 rfl rfl sy_refl) ?_
  refine sy_Fs (sx_iadd (z := 86) xc128_305 (by decide)) ?_
  refine sy_Fs (sy_iconst (v := 0) xc128_306 (by decide) sy_refl) ?_
  refine sy_Fw (i := 26) (x := (1, 1, 3200, (fz Fl 7))) hw (by decide) (sy_bas (i := 86) xc128_307 (wh_at hw 26 rfl) rfl (by decide) (by decide) rfl sy_refl) ?_
  intro w hw
  simp only [List.set_cons_zero, List.set_cons_succ] at hw
  refine sy_Fs (sx_iinc (c := 1) (z := 7) (ls' := [(2, pl 0, 0), (0, 1, 0), (0, 1, 0), (0, 1, 0), (0, 7, 0), (0, 24, 0), (0, 0, 0), (255, 0, 0)]) xc128_308 rfl (by decide) (by rw [xl128]; rfl) rfl (by decide) rfl) ?_
  refine sy_Fs (sy_goto (pc' := 288) xc128_311 (by decide) (by decide) sy_refl) ?_
  refine sy_Fs (sy_ild xc128_288 rfl rfl sy_refl) ?_
  refine sy_Fs (sy_bipush (v := 80) xc128_290 (by decide) (by decide) sy_refl) ?_
  refine sy_Fs (sy_ge_f xc128_292 (by decide) (by decide) (by decide) sy_refl) ?_
  refine sy_Fs (sy_aldn xc128_295 rfl rfl sy_refl) ?_
  refine sy_Fs (sy_gf xc128_296 xf128_406 rfl (wh_at hw 0 rfl) rfl (fh_at hX0 28 rfl rfl) sy_refl) ?_
  refine sy_Fs (sy_bipush (v := 80) xc128_299 (by decide) (by decide) sy_refl) ?_
  refine sy_Fs (sy_ildn xc128_301 rfl rfl sy_refl) ?_
  refine sy_Fs (sx_imul (z := 80) xc128_302 (by decide)) ?_
  refine sy_Fs (sy_ild xc128_303 rfl rfl sy_refl) ?_
  refine sy_Fs (sx_iadd (z := 87) xc128_305 (by decide)) ?_
  refine sy_Fs (sy_iconst (v := 0) xc128_306 (by decide) sy_refl) ?_
  refine sy_Fw (i := 26) (x := (1, 1, 3200, (fz Fl 8))) hw (by decide) (sy_bas (i := 87) xc128_307 (wh_at hw 26 rfl) rfl (by decide) (by decide) rfl sy_refl) ?_
  intro w hw
  simp only [List.set_cons_zero, List.set_cons_succ] at hw
  refine sy_Fs (sx_iinc (c := 1) (z := 8) (ls' := [(2, pl 0, 0), (0, 1, 0), (0, 1, 0), (0, 1, 0), (0, 8, 0), (0, 24, 0), (0, 0, 0), (255, 0, 0)]) xc128_308 rfl (by decide) (by rw [xl128]; rfl) rfl (by decide) rfl) ?_
  refine sy_Fs (sy_goto (pc' := 288) xc128_311 (by decide) (by decide) sy_refl) ?_
  refine sy_Fs (sy_ild xc128_288 rfl rfl sy_refl) ?_
  refine sy_Fs (sy_bipush (v := 80) xc128_290 (by decide) (by decide) sy_refl) ?_
  refine sy_Fs (sy_ge_f xc128_292 (by decide) (by decide) (by decide) sy_refl) ?_
  refine sy_Fs (sy_aldn xc128_295 rfl rfl sy_refl) ?_
  refine sy_Fs (sy_gf xc128_296 xf128_406 rfl (wh_at hw 0 rfl) rfl (fh_at hX0 28 rfl rfl) sy_refl) ?_
  refine sy_Fs (sy_bipush (v := 80) xc128_299 (by decide) (by decide) sy_refl) ?_
  refine sy_Fs (sy_ildn xc128_301 rfl rfl sy_refl) ?_
  refine sy_Fs (sx_imul (z := 80) xc128_302 (by decide)) ?_
  refine sy_Fs (sy_ild xc128_303 rfl rfl sy_refl) ?_
  refine sy_Fs (sx_iadd (z := 88) xc128_305 (by decide)) ?_
  refine sy_Fs (sy_iconst (v := 0) xc128_306 (by decide) sy_refl) ?_
  refine sy_Fw (i := 26) (x := (1, 1, 3200, (fz Fl 9))) hw (by decide) (sy_bas (i := 88) xc128_307 (wh_at hw 26 rfl) rfl (by decide) (by decide) rfl sy_refl) ?_
  intro w hw
  simp only [List.set_cons_zero, List.set_cons_succ] at hw
  refine sy_Fs (sx_iinc (c := 1) (z := 9) (ls' := [(2, pl 0, 0), (0, 1, 0), (0, 1, 0), (0, 1, 0), (0, 9, 0), (0, 24, 0), (0, 0, 0), (255, 0, 0)]) xc128_308 rfl (by decide) (by rw [xl128]; rfl) rfl (by decide) rfl) ?_
  refine sy_Fs (sy_goto (pc' := 288) xc128_311 (by decide) (by decide) sy_refl) ?_
  refine sy_Fs (sy_ild xc128_288 rfl rfl sy_refl) ?_
  refine sy_Fs (sy_bipush (v := 80) xc128_290 (by decide) (by decide) sy_refl) ?_
  refine sy_Fs (sy_ge_f xc128_292 (by decide) (by decide) (by decide) sy_refl) ?_
  refine sy_Fs (sy_aldn xc128_295 rfl rfl sy_refl) ?_
  refine sy_Fs (sy_gf xc128_296 xf128_406 rfl (wh_at hw 0 rfl) rfl (fh_at hX0 28 rfl rfl) sy_refl) ?_
  refine sy_Fs (sy_bipush (v := 80) xc128_299 (by decide) (by decide) sy_refl) ?_
  refine sy_Fs (sy_ildn xc128_301 rfl rfl sy_refl) ?_
  refine sy_Fs (sx_imul (z := 80) xc128_302 (by decide)) ?_
  refine sy_Fs (sy_ild xc128_303 rfl rfl sy_refl) ?_
  refine sy_Fs (sx_iadd (z := 89) xc128_305 (by decide)) ?_
  refine sy_Fs (sy_iconst (v := 0) xc128_306 (by decide) sy_refl) ?_
  refine sy_Fw (i := 26) (x := (1, 1, 3200, (fz Fl 10))) hw (by decide) (sy_bas (i := 89) xc128_307 (wh_at hw 26 rfl) rfl (by decide) (by decide) rfl sy_refl) ?_
  intro w hw
  simp only [List.set_cons_zero, List.set_cons_succ] at hw
  refine sy_Fs (sx_iinc (c := 1) (z := 10) (ls' := [(2, pl 0, 0), (0, 1, 0), (0, 1, 0), (0, 1, 0), (0, 10, 0), (0, 24, 0), (0, 0, 0), (255, 0, 0)]) xc128_308 rfl (by decide) (by rw [xl128]; rfl) rfl (by decide) rfl) ?_
  refine sy_Fs (sy_goto (pc' := 288) xc128_311 (by decide) (by decide) sy_refl) ?_
  refine sy_Fs (sy_ild xc128_288 rfl rfl sy_refl) ?_
  refine sy_Fs (sy_bipush (v := 80) xc128_290 (by decide) (by decide) sy_refl) ?_
  refine sy_Fs (sy_ge_f xc128_292 (by decide) (by decide) (by decide) sy_refl) ?_
  refine sy_Fs (sy_aldn xc128_295 rfl rfl sy_refl) ?_
  refine sy_Fs (sy_gf xc128_296 xf128_406 rfl (wh_at hw 0 rfl) rfl (fh_at hX0 28 rfl rfl) sy_refl) ?_
  refine sy_Fs (sy_bipush (v := 80) xc128_299 (by decide) (by decide) sy_refl) ?_
  refine sy_Fs (sy_ildn xc128_301 rfl rfl sy_refl) ?_
  refine sy_Fs (sx_imul (z := 80) xc128_302 (by decide)) ?_
  refine sy_Fs (sy_ild xc128_303 rfl rfl sy_refl) ?_
  refine sy_Fs (sx_iadd (z := 90) xc128_305 (by decide)) ?_
  refine sy_Fs (sy_iconst (v := 0) xc128_306 (by decide) sy_refl) ?_
  refine sy_Fw (i := 26) (x := (1, 1, 3200, (fz Fl 11))) hw (by decide) (sy_bas (i := 90) xc128_307 (wh_at hw 26 rfl) rfl (by decide) (by decide) rfl sy_refl) ?_
  intro w hw
  simp only [List.set_cons_zero, List.set_cons_succ] at hw
  refine sy_Fs (sx_iinc (c := 1) (z := 11) (ls' := [(2, pl 0, 0), (0, 1, 0), (0, 1, 0), (0, 1, 0), (0, 11, 0), (0, 24, 0), (0, 0, 0), (255, 0, 0)]) xc128_308 rfl (by decide) (by rw [xl128]; rfl) rfl (by decide) rfl) ?_
  refine sy_Fs (sy_goto (pc' := 288) xc128_311 (by decide) (by decide) sy_refl) ?_
  refine sy_Fs (sy_ild xc128_288 rfl rfl sy_refl) ?_
  refine sy_Fs (sy_bipush (v := 80) xc128_290 (by decide) (by decide) sy_refl) ?_
  refine sy_Fs (sy_ge_f xc128_292 (by decide) (by decide) (by decide) sy_refl) ?_
  refine sy_Fs (sy_aldn xc128_295 rfl rfl sy_refl) ?_
  refine sy_Fs (sy_gf xc128_296 xf128_406 rfl (wh_at hw 0 rfl) rfl (fh_at hX0 28 rfl rfl) sy_refl) ?_
  refine sy_Fs (sy_bipush (v := 80) xc128_299 (by decide) (by decide) sy_refl) ?_
  refine sy_Fs (sy_ildn xc128_301 rfl rfl sy_refl) ?_
  refine sy_Fs (sx_imul (z := 80) xc128_302 (by decide)) ?_
  refine sy_Fs (sy_ild xc128_303 rfl rfl sy_refl) ?_
  refine sy_Fs (sx_iadd (z := 91) xc128_305 (by decide)) ?_
  refine sy_Fs (sy_iconst (v := 0) xc128_306 (by decide) sy_refl) ?_
  refine sy_Fw (i := 26) (x := (1, 1, 3200, (fz Fl 12))) hw (by decide) (sy_bas (i := 91) xc128_307 (wh_at hw 26 rfl) rfl (by decide) (by decide) rfl sy_refl) ?_
  intro w hw
  simp only [List.set_cons_zero, List.set_cons_succ] at hw
  refine sy_Fs (sx_iinc (c := 1) (z := 12) (ls' := [(2, pl 0, 0), (0, 1, 0), (0, 1, 0), (0, 1, 0), (0, 12, 0), (0, 24, 0), (0, 0, 0), (255, 0, 0)]) xc128_308 rfl (by decide) (by rw [xl128]; rfl) rfl (by decide) rfl) ?_
  refine sy_Fs (sy_goto (pc' := 288) xc128_311 (by decide) (by decide) sy_refl) ?_
  refine sy_Fs (sy_ild xc128_288 rfl rfl sy_refl) ?_
  refine sy_Fs (sy_bipush (v := 80) xc128_290 (by decide) (by decide) sy_refl) ?_
  refine sy_Fs (sy_ge_f xc128_292 (by decide) (by decide) (by decide) sy_refl) ?_
  refine sy_Fs (sy_aldn xc128_295 rfl rfl sy_refl) ?_
  refine sy_Fs (sy_gf xc128_296 xf128_406 rfl (wh_at hw 0 rfl) rfl (fh_at hX0 28 rfl rfl) sy_refl) ?_
  refine sy_Fs (sy_bipush (v := 80) xc128_299 (by decide) (by decide) sy_refl) ?_
  refine sy_Fs (sy_ildn xc128_301 rfl rfl sy_refl) ?_
  refine sy_Fs (sx_imul (z := 80) xc128_302 (by decide)) ?_
  refine sy_Fs (sy_ild xc128_303 rfl rfl sy_refl) ?_
  refine sy_Fs (sx_iadd (z := 92) xc128_305 (by decide)) ?_
  refine sy_Fs (sy_iconst (v := 0) xc128_306 (by decide) sy_refl) ?_
  refine sy_Fw (i := 26) (x := (1, 1, 3200, (fz Fl 13))) hw (by decide) (sy_bas (i := 92) xc128_307 (wh_at hw 26 rfl) rfl (by decide) (by decide) rfl sy_refl) ?_
  intro w hw
  simp only [List.set_cons_zero, List.set_cons_succ] at hw
  refine sy_Fs (sx_iinc (c := 1) (z := 13) (ls' := [(2, pl 0, 0), (0, 1, 0), (0, 1, 0), (0, 1, 0), (0, 13, 0), (0, 24, 0), (0, 0, 0), (255, 0, 0)]) xc128_308 rfl (by decide) (by rw [xl128]; rfl) rfl (by decide) rfl) ?_
  refine sy_Fs (sy_goto (pc' := 288) xc128_311 (by decide) (by decide) sy_refl) ?_
  refine sy_Fs (sy_ild xc128_288 rfl rfl sy_refl) ?_
  refine sy_Fs (sy_bipush (v := 80) xc128_290 (by decide) (by decide) sy_refl) ?_
  refine sy_Fs (sy_ge_f xc128_292 (by decide) (by decide) (by decide) sy_refl) ?_
  refine sy_Fs (sy_aldn xc128_295 rfl rfl sy_refl) ?_
  refine sy_Fs (sy_gf xc128_296 xf128_406 rfl (wh_at hw 0 rfl) rfl (fh_at hX0 28 rfl rfl) sy_refl) ?_
  refine sy_Fs (sy_bipush (v := 80) xc128_299 (by decide) (by decide) sy_refl) ?_
  refine sy_Fs (sy_ildn xc128_301 rfl rfl sy_refl) ?_
  refine sy_Fs (sx_imul (z := 80) xc128_302 (by decide)) ?_
  refine sy_Fs (sy_ild xc128_303 rfl rfl sy_refl) ?_
  refine sy_Fs (sx_iadd (z := 93) xc128_305 (by decide)) ?_
  refine sy_Fs (sy_iconst (v := 0) xc128_306 (by decide) sy_refl) ?_
  refine sy_Fw (i := 26) (x := (1, 1, 3200, (fz Fl 14))) hw (by decide) (sy_bas (i := 93) xc128_307 (wh_at hw 26 rfl) rfl (by decide) (by decide) rfl sy_refl) ?_
  intro w hw
  simp only [List.set_cons_zero, List.set_cons_succ] at hw
  refine sy_Fs (sx_iinc (c := 1) (z := 14) (ls' := [(2, pl 0, 0), (0, 1, 0), (0, 1, 0), (0, 1, 0), (0, 14, 0), (0, 24, 0), (0, 0, 0), (255, 0, 0)]) xc128_308 rfl (by decide) (by rw [xl128]; rfl) rfl (by decide) rfl) ?_
  refine sy_Fs (sy_goto (pc' := 288) xc128_311 (by decide) (by decide) sy_refl) ?_
  refine sy_Fs (sy_ild xc128_288 rfl rfl sy_refl) ?_
  refine sy_Fs (sy_bipush (v := 80) xc128_290 (by decide) (by decide) sy_refl) ?_
  refine sy_Fs (sy_ge_f xc128_292 (by decide) (by decide) (by decide) sy_refl) ?_
  refine sy_Fs (sy_aldn xc128_295 rfl rfl sy_refl) ?_
  refine sy_Fs (sy_gf xc128_296 xf128_406 rfl (wh_at hw 0 rfl) rfl (fh_at hX0 28 rfl rfl) sy_refl) ?_
  refine sy_Fs (sy_bipush (v := 80) xc128_299 (by decide) (by decide) sy_refl) ?_
  refine sy_Fs (sy_ildn xc128_301 rfl rfl sy_refl) ?_
  refine sy_Fs (sx_imul (z := 80) xc128_302 (by decide)) ?_
  refine sy_Fs (sy_ild xc128_303 rfl rfl sy_refl) ?_
  refine sy_Fs (sx_iadd (z := 94) xc128_305 (by decide)) ?_
  refine sy_Fs (sy_iconst (v := 0) xc128_306 (by decide) sy_refl) ?_
  refine sy_Fw (i := 26) (x := (1, 1, 3200, (fz Fl 15))) hw (by decide) (sy_bas (i := 94) xc128_307 (wh_at hw 26 rfl) rfl (by decide) (by decide) rfl sy_refl) ?_
  intro w hw
  simp only [List.set_cons_zero, List.set_cons_succ] at hw
  refine sy_Fs (sx_iinc (c := 1) (z := 15) (ls' := [(2, pl 0, 0), (0, 1, 0), (0, 1, 0), (0, 1, 0), (0, 15, 0), (0, 24, 0), (0, 0, 0), (255, 0, 0)]) xc128_308 rfl (by decide) (by rw [xl128]; rfl) rfl (by decide) rfl) ?_
  refine sy_Fs (sy_goto (pc' := 288) xc128_311 (by decide) (by decide) sy_refl) ?_
  refine sy_Fs (sy_ild xc128_288 rfl rfl sy_refl) ?_
  refine sy_Fs (sy_bipush (v := 80) xc128_290 (by decide) (by decide) sy_refl) ?_
  refine sy_Fs (sy_ge_f xc128_292 (by decide) (by decide) (by decide) sy_refl) ?_
  refine sy_Fs (sy_aldn xc128_295 rfl rfl sy_refl) ?_
  refine sy_Fs (sy_gf xc128_296 xf128_406 rfl (wh_at hw 0 rfl) rfl (fh_at hX0 28 rfl rfl) sy_refl) ?_
  refine sy_Fs (sy_bipush (v := 80) xc128_299 (by decide) (by decide) sy_refl) ?_
  refine sy_Fs (sy_ildn xc128_301 rfl rfl sy_refl) ?_
  refine sy_Fs (sx_imul (z := 80) xc128_302 (by decide)) ?_
  refine sy_Fs (sy_ild xc128_303 rfl rfl sy_refl) ?_
  refine sy_Fs (sx_iadd (z := 95) xc128_305 (by decide)) ?_
  refine sy_Fs (sy_iconst (v := 0) xc128_306 (by decide) sy_refl) ?_
  refine sy_Fw (i := 26) (x := (1, 1, 3200, (fz Fl 16))) hw (by decide) (sy_bas (i := 95) xc128_307 (wh_at hw 26 rfl) rfl (by decide) (by decide) rfl sy_refl) ?_
  intro w hw
  simp only [List.set_cons_zero, List.set_cons_succ] at hw
  refine sy_Fs (sx_iinc (c := 1) (z := 16) (ls' := [(2, pl 0, 0), (0, 1, 0), (0, 1, 0), (0, 1, 0), (0, 16, 0), (0, 24, 0), (0, 0, 0), (255, 0, 0)]) xc128_308 rfl (by decide) (by rw [xl128]; rfl) rfl (by decide) rfl) ?_
  refine sy_Fs (sy_goto (pc' := 288) xc128_311 (by decide) (by decide) sy_refl) ?_
  refine sy_Fs (sy_ild xc128_288 rfl rfl sy_refl) ?_
  refine sy_Fs (sy_bipush (v := 80) xc128_290 (by decide) (by decide) sy_refl) ?_
  refine sy_Fs (sy_ge_f xc128_292 (by decide) (by decide) (by decide) sy_refl) ?_
  refine sy_Fs (sy_aldn xc128_295 rfl rfl sy_refl) ?_
  refine sy_Fs (sy_gf xc128_296 xf128_406 rfl (wh_at hw 0 rfl) rfl (fh_at hX0 28 rfl rfl) sy_refl) ?_
  refine sy_Fs (sy_bipush (v := 80) xc128_299 (by decide) (by decide) sy_refl) ?_
  refine sy_Fs (sy_ildn xc128_301 rfl rfl sy_refl) ?_
  refine sy_Fs (sx_imul (z := 80) xc128_302 (by decide)) ?_
  refine sy_Fs (sy_ild xc128_303 rfl rfl sy_refl) ?_
  refine sy_Fs (sx_iadd (z := 96) xc128_305 (by decide)) ?_
  refine sy_Fs (sy_iconst (v := 0) xc128_306 (by decide) sy_refl) ?_
  refine sy_Fw (i := 26) (x := (1, 1, 3200, (fz Fl 17))) hw (by decide) (sy_bas (i := 96) xc128_307 (wh_at hw 26 rfl) rfl (by decide) (by decide) rfl sy_refl) ?_
  intro w hw
  simp only [List.set_cons_zero, List.set_cons_succ] at hw
  refine sy_Fs (sx_iinc (c := 1) (z := 17) (ls' := [(2, pl 0, 0), (0, 1, 0), (0, 1, 0), (0, 1, 0), (0, 17, 0), (0, 24, 0), (0, 0, 0), (255, 0, 0)]) xc128_308 rfl (by decide) (by rw [xl128]; rfl) rfl (by decide) rfl) ?_
  refine sy_Fs (sy_goto (pc' := 288) xc128_311 (by decide) (by decide) sy_refl) ?_
  refine sy_Fs (sy_ild xc128_288 rfl rfl sy_refl) ?_
  refine sy_Fs (sy_bipush (v := 80) xc128_290 (by decide) (by decide) sy_refl) ?_
  refine sy_Fs (sy_ge_f xc128_292 (by decide) (by decide) (by decide) sy_refl) ?_
  refine sy_Fs (sy_aldn xc128_295 rfl rfl sy_refl) ?_
  refine sy_Fs (sy_gf xc128_296 xf128_406 rfl (wh_at hw 0 rfl) rfl (fh_at hX0 28 rfl rfl) sy_refl) ?_
  refine sy_Fs (sy_bipush (v := 80) xc128_299 (by decide) (by decide) sy_refl) ?_
  refine sy_Fs (sy_ildn xc128_301 rfl rfl sy_refl) ?_
  refine sy_Fs (sx_imul (z := 80) xc128_302 (by decide)) ?_
  refine sy_Fs (sy_ild xc128_303 rfl rfl sy_refl) ?_
  refine sy_Fs (sx_iadd (z := 97) xc128_305 (by decide)) ?_
  refine sy_Fs (sy_iconst (v := 0) xc128_306 (by decide) sy_refl) ?_
  refine sy_Fw (i := 26) (x := (1, 1, 3200, (fz Fl 18))) hw (by decide) (sy_bas (i := 97) xc128_307 (wh_at hw 26 rfl) rfl (by decide) (by decide) rfl sy_refl) ?_
  intro w hw
  simp only [List.set_cons_zero, List.set_cons_succ] at hw
  refine sy_Fs (sx_iinc (c := 1) (z := 18) (ls' := [(2, pl 0, 0), (0, 1, 0), (0, 1, 0), (0, 1, 0), (0, 18, 0), (0, 24, 0), (0, 0, 0), (255, 0, 0)]) xc128_308 rfl (by decide) (by rw [xl128]; rfl) rfl (by decide) rfl) ?_
  refine sy_Fs (sy_goto (pc' := 288) xc128_311 (by decide) (by decide) sy_refl) ?_
  refine sy_Fs (sy_ild xc128_288 rfl rfl sy_refl) ?_
  refine sy_Fs (sy_bipush (v := 80) xc128_290 (by decide) (by decide) sy_refl) ?_
  refine sy_Fs (sy_ge_f xc128_292 (by decide) (by decide) (by decide) sy_refl) ?_
  refine sy_Fs (sy_aldn xc128_295 rfl rfl sy_refl) ?_
  refine sy_Fs (sy_gf xc128_296 xf128_406 rfl (wh_at hw 0 rfl) rfl (fh_at hX0 28 rfl rfl) sy_refl) ?_
  refine sy_Fs (sy_bipush (v := 80) xc128_299 (by decide) (by decide) sy_refl) ?_
  refine sy_Fs (sy_ildn xc128_301 rfl rfl sy_refl) ?_
  refine sy_Fs (sx_imul (z := 80) xc128_302 (by decide)) ?_
  refine sy_Fs (sy_ild xc128_303 rfl rfl sy_refl) ?_
  refine sy_Fs (sx_iadd (z := 98) xc128_305 (by decide)) ?_
  refine sy_Fs (sy_iconst (v := 0) xc128_306 (by decide) sy_refl) ?_
  refine sy_Fw (i := 26) (x := (1, 1, 3200, (fz Fl 19))) hw (by decide) (sy_bas (i := 98) xc128_307 (wh_at hw 26 rfl) rfl (by decide) (by decide) rfl sy_refl) ?_
  intro w hw
  simp only [List.set_cons_zero, List.set_cons_succ] at hw
  refine sy_Fs (sx_iinc (c := 1) (z := 19) (ls' := [(2, pl 0, 0), (0, 1, 0), (0, 1, 0), (0, 1, 0), (0, 19, 0), (0, 24, 0), (0, 0, 0), (255, 0, 0)]) xc128_308 rfl (by decide) (by rw [xl128]; rfl) rfl (by decide) rfl) ?_
  refine sy_Fs (sy_goto (pc' := 288) xc128_311 (by decide) (by decide) sy_refl) ?_
  refine sy_Fs (sy_ild xc128_288 rfl rfl sy_refl) ?_
  refine sy_Fs (sy_bipush (v := 80) xc128_290 (by decide) (by decide) sy_refl) ?_
  refine sy_Fs (sy_ge_f xc128_292 (by decide) (by decide) (by decide) sy_refl) ?_
  refine sy_Fs (sy_aldn xc128_295 rfl rfl sy_refl) ?_
  refine sy_Fs (sy_gf xc128_296 xf128_406 rfl (wh_at hw 0 rfl) rfl (fh_at hX0 28 rfl rfl) sy_refl) ?_
  refine sy_Fs (sy_bipush (v := 80) xc128_299 (by decide) (by decide) sy_refl) ?_
  refine sy_Fs (sy_ildn xc128_301 rfl rfl sy_refl) ?_
  refine sy_Fs (sx_imul (z := 80) xc128_302 (by decide)) ?_
  refine sy_Fs (sy_ild xc128_303 rfl rfl sy_refl) ?_
  refine sy_Fs (sx_iadd (z := 99) xc128_305 (by decide)) ?_
  refine sy_Fs (sy_iconst (v := 0) xc128_306 (by decide) sy_refl) ?_
  refine sy_Fw (i := 26) (x := (1, 1, 3200, (fz Fl 20))) hw (by decide) (sy_bas (i := 99) xc128_307 (wh_at hw 26 rfl) rfl (by decide) (by decide) rfl sy_refl) ?_
  intro w hw
  simp only [List.set_cons_zero, List.set_cons_succ] at hw
  refine sy_Fs (sx_iinc (c := 1) (z := 20) (ls' := [(2, pl 0, 0), (0, 1, 0), (0, 1, 0), (0, 1, 0), (0, 20, 0), (0, 24, 0), (0, 0, 0), (255, 0, 0)]) xc128_308 rfl (by decide) (by rw [xl128]; rfl) rfl (by decide) rfl) ?_
  refine sy_Fs (sy_goto (pc' := 288) xc128_311 (by decide) (by decide) sy_refl) ?_
  refine sy_Fs (sy_ild xc128_288 rfl rfl sy_refl) ?_
  refine sy_Fs (sy_bipush (v := 80) xc128_290 (by decide) (by decide) sy_refl) ?_
  refine sy_Fs (sy_ge_f xc128_292 (by decide) (by decide) (by decide) sy_refl) ?_
  refine sy_Fs (sy_aldn xc128_295 rfl rfl sy_refl) ?_
  refine sy_Fs (sy_gf xc128_296 xf128_406 rfl (wh_at hw 0 rfl) rfl (fh_at hX0 28 rfl rfl) sy_refl) ?_
  refine sy_Fs (sy_bipush (v := 80) xc128_299 (by decide) (by decide) sy_refl) ?_
  refine sy_Fs (sy_ildn xc128_301 rfl rfl sy_refl) ?_
  refine sy_Fs (sx_imul (z := 80) xc128_302 (by decide)) ?_
  refine sy_Fs (sy_ild xc128_303 rfl rfl sy_refl) ?_
  refine sy_Fs (sx_iadd (z := 100) xc128_305 (by decide)) ?_
  refine sy_Fs (sy_iconst (v := 0) xc128_306 (by decide) sy_refl) ?_
  refine sy_Fw (i := 26) (x := (1, 1, 3200, (fz Fl 21))) hw (by decide) (sy_bas (i := 100) xc128_307 (wh_at hw 26 rfl) rfl (by decide) (by decide) rfl sy_refl) ?_
  intro w hw
  simp only [List.set_cons_zero, List.set_cons_succ] at hw
  refine sy_Fs (sx_iinc (c := 1) (z := 21) (ls' := [(2, pl 0, 0), (0, 1, 0), (0, 1, 0), (0, 1, 0), (0, 21, 0), (0, 24, 0), (0, 0, 0), (255, 0, 0)]) xc128_308 rfl (by decide) (by rw [xl128]; rfl) rfl (by decide) rfl) ?_
  refine sy_Fs (sy_goto (pc' := 288) xc128_311 (by decide) (by decide) sy_refl) ?_
  refine sy_Fs (sy_ild xc128_288 rfl rfl sy_refl) ?_
  refine sy_Fs (sy_bipush (v := 80) xc128_290 (by decide) (by decide) sy_refl) ?_
  refine sy_Fs (sy_ge_f xc128_292 (by decide) (by decide) (by decide) sy_refl) ?_
  refine sy_Fs (sy_aldn xc128_295 rfl rfl sy_refl) ?_
  refine sy_Fs (sy_gf xc128_296 xf128_406 rfl (wh_at hw 0 rfl) rfl (fh_at hX0 28 rfl rfl) sy_refl) ?_
  refine sy_Fs (sy_bipush (v := 80) xc128_299 (by decide) (by decide) sy_refl) ?_
  refine sy_Fs (sy_ildn xc128_301 rfl rfl sy_refl) ?_
  refine sy_Fs (sx_imul (z := 80) xc128_302 (by decide)) ?_
  refine sy_Fs (sy_ild xc128_303 rfl rfl sy_refl) ?_
  refine sy_Fs (sx_iadd (z := 101) xc128_305 (by decide)) ?_
  refine sy_Fs (sy_iconst (v := 0) xc128_306 (by decide) sy_refl) ?_
  refine sy_Fw (i := 26) (x := (1, 1, 3200, (fz Fl 22))) hw (by decide) (sy_bas (i := 101) xc128_307 (wh_at hw 26 rfl) rfl (by decide) (by decide) rfl sy_refl) ?_
  intro w hw
  simp only [List.set_cons_zero, List.set_cons_succ] at hw
  refine sy_Fs (sx_iinc (c := 1) (z := 22) (ls' := [(2, pl 0, 0), (0, 1, 0), (0, 1, 0), (0, 1, 0), (0, 22, 0), (0, 24, 0), (0, 0, 0), (255, 0, 0)]) xc128_308 rfl (by decide) (by rw [xl128]; rfl) rfl (by decide) rfl) ?_
  refine sy_Fs (sy_goto (pc' := 288) xc128_311 (by decide) (by decide) sy_refl) ?_
  refine sy_Fs (sy_ild xc128_288 rfl rfl sy_refl) ?_
  refine sy_Fs (sy_bipush (v := 80) xc128_290 (by decide) (by decide) sy_refl) ?_
  refine sy_Fs (sy_ge_f xc128_292 (by decide) (by decide) (by decide) sy_refl) ?_
  refine sy_Fs (sy_aldn xc128_295 rfl rfl sy_refl) ?_
  refine sy_Fs (sy_gf xc128_296 xf128_406 rfl (wh_at hw 0 rfl) rfl (fh_at hX0 28 rfl rfl) sy_refl) ?_
  refine sy_Fs (sy_bipush (v := 80) xc128_299 (by decide) (by decide) sy_refl) ?_
  refine sy_Fs (sy_ildn xc128_301 rfl rfl sy_refl) ?_
  refine sy_Fs (sx_imul (z := 80) xc128_302 (by decide)) ?_
  refine sy_Fs (sy_ild xc128_303 rfl rfl sy_refl) ?_
  refine sy_Fs (sx_iadd (z := 102) xc128_305 (by decide)) ?_
  refine sy_Fs (sy_iconst (v := 0) xc128_306 (by decide) sy_refl) ?_
  refine sy_Fw (i := 26) (x := (1, 1, 3200, (fz Fl 23))) hw (by decide) (sy_bas (i := 102) xc128_307 (wh_at hw 26 rfl) rfl (by decide) (by decide) rfl sy_refl) ?_
  intro w hw
  simp only [List.set_cons_zero, List.set_cons_succ] at hw
  refine sy_Fs (sx_iinc (c := 1) (z := 23) (ls' := [(2, pl 0, 0), (0, 1, 0), (0, 1, 0), (0, 1, 0), (0, 23, 0), (0, 24, 0), (0, 0, 0), (255, 0, 0)]) xc128_308 rfl (by decide) (by rw [xl128]; rfl) rfl (by decide) rfl) ?_
  refine sy_Fs (sy_goto (pc' := 288) xc128_311 (by decide) (by decide) sy_refl) ?_
  refine sy_Fs (sy_ild xc128_288 rfl rfl sy_refl) ?_
  refine sy_Fs (sy_bipush (v := 80) xc128_290 (by decide) (by decide) sy_refl) ?_
  refine sy_Fs (sy_ge_f xc128_292 (by decide) (by decide) (by decide) sy_refl) ?_
  refine sy_Fs (sy_aldn xc128_295 rfl rfl sy_refl) ?_
  refine sy_Fs (sy_gf xc128_296 xf128_406 rfl (wh_at hw 0 rfl) rfl (fh_at hX0 28 rfl rfl) sy_refl) ?_
  refine sy_Fs (sy_bipush (v := 80) xc128_299 (by decide) (by decide) sy_refl) ?_
  refine sy_Fs (sy_ildn xc128_301 rfl rfl sy_refl) ?_
  refine sy_Fs (sx_imul (z := 80) xc128_302 (by decide)) ?_
  refine sy_Fs (sy_ild xc128_303 rfl rfl sy_refl) ?_
  refine sy_Fs (sx_iadd (z := 103) xc128_305 (by decide)) ?_
  refine sy_Fs (sy_iconst (v := 0) xc128_306 (by decide) sy_refl) ?_
  refine sy_Fw (i := 26) (x := (1, 1, 3200, (fz Fl 24))) hw (by decide) (sy_bas (i := 103) xc128_307 (wh_at hw 26 rfl) rfl (by decide) (by decide) rfl sy_refl) ?_
  intro w hw
  simp only [List.set_cons_zero, List.set_cons_succ] at hw
  refine sy_Fs (sx_iinc (c := 1) (z := 24) (ls' := [(2, pl 0, 0), (0, 1, 0), (0, 1, 0), (0, 1, 0), (0, 24, 0), (0, 24, 0), (0, 0, 0), (255, 0, 0)]) xc128_308 rfl (by decide) (by rw [xl128]; rfl) rfl (by decide) rfl) ?_
  refine sy_Fs (sy_goto (pc' := 288) xc128_311 (by decide) (by decide) sy_refl) ?_
  refine sy_Fs (sy_ild xc128_288 rfl rfl sy_refl) ?_
  refine sy_Fs (sy_bipush (v := 80) xc128_290 (by decide) (by decide) sy_refl) ?_
  refine sy_Fs (sy_ge_f xc128_292 (by decide) (by decide) (by decide) sy_refl) ?_
  refine sy_Fs (sy_aldn xc128_295 rfl rfl sy_refl) ?_
  refine sy_Fs (sy_gf xc128_296 xf128_406 rfl (wh_at hw 0 rfl) rfl (fh_at hX0 28 rfl rfl) sy_refl) ?_
  refine sy_Fs (sy_bipush (v := 80) xc128_299 (by decide) (by decide) sy_refl) ?_
  refine sy_Fs (sy_ildn xc128_301 rfl rfl sy_refl) ?_
  refine sy_Fs (sx_imul (z := 80) xc128_302 (by decide)) ?_
  refine sy_Fs (sy_ild xc128_303 rfl rfl sy_refl) ?_
  refine sy_Fs (sx_iadd (z := 104) xc128_305 (by decide)) ?_
  refine sy_Fs (sy_iconst (v := 0) xc128_306 (by decide) sy_refl) ?_
  refine sy_Fw (i := 26) (x := (1, 1, 3200, (fz Fl 25))) hw (by decide) (sy_bas (i := 104) xc128_307 (wh_at hw 26 rfl) rfl (by decide) (by decide) rfl sy_refl) ?_
  intro w hw
  simp only [List.set_cons_zero, List.set_cons_succ] at hw
  refine sy_Fs (sx_iinc (c := 1) (z := 25) (ls' := [(2, pl 0, 0), (0, 1, 0), (0, 1, 0), (0, 1, 0), (0, 25, 0), (0, 24, 0), (0, 0, 0), (255, 0, 0)]) xc128_308 rfl (by decide) (by rw [xl128]; rfl) rfl (by decide) rfl) ?_
  refine sy_Fs (sy_goto (pc' := 288) xc128_311 (by decide) (by decide) sy_refl) ?_
  refine sy_Fs (sy_ild xc128_288 rfl rfl sy_refl) ?_
  refine sy_Fs (sy_bipush (v := 80) xc128_290 (by decide) (by decide) sy_refl) ?_
  refine sy_Fs (sy_ge_f xc128_292 (by decide) (by decide) (by decide) sy_refl) ?_
  refine sy_Fs (sy_aldn xc128_295 rfl rfl sy_refl) ?_
  refine sy_Fs (sy_gf xc128_296 xf128_406 rfl (wh_at hw 0 rfl) rfl (fh_at hX0 28 rfl rfl) sy_refl) ?_
  refine sy_Fs (sy_bipush (v := 80) xc128_299 (by decide) (by decide) sy_refl) ?_
  refine sy_Fs (sy_ildn xc128_301 rfl rfl sy_refl) ?_
  refine sy_Fs (sx_imul (z := 80) xc128_302 (by decide)) ?_
  refine sy_Fs (sy_ild xc128_303 rfl rfl sy_refl) ?_
  refine sy_Fs (sx_iadd (z := 105) xc128_305 (by decide)) ?_
  refine sy_Fs (sy_iconst (v := 0) xc128_306 (by decide) sy_refl) ?_
  refine sy_Fw (i := 26) (x := (1, 1, 3200, (fz Fl 26))) hw (by decide) (sy_bas (i := 105) xc128_307 (wh_at hw 26 rfl) rfl (by decide) (by decide) rfl sy_refl) ?_
  intro w hw
  simp only [List.set_cons_zero, List.set_cons_succ] at hw
  refine sy_Fs (sx_iinc (c := 1) (z := 26) (ls' := [(2, pl 0, 0), (0, 1, 0), (0, 1, 0), (0, 1, 0), (0, 26, 0), (0, 24, 0), (0, 0, 0), (255, 0, 0)]) xc128_308 rfl (by decide) (by rw [xl128]; rfl) rfl (by decide) rfl) ?_
  refine sy_Fs (sy_goto (pc' := 288) xc128_311 (by decide) (by decide) sy_refl) ?_
  refine sy_Fs (sy_ild xc128_288 rfl rfl sy_refl) ?_
  refine sy_Fs (sy_bipush (v := 80) xc128_290 (by decide) (by decide) sy_refl) ?_
  refine sy_Fs (sy_ge_f xc128_292 (by decide) (by decide) (by decide) sy_refl) ?_
  refine sy_Fs (sy_aldn xc128_295 rfl rfl sy_refl) ?_
  refine sy_Fs (sy_gf xc128_296 xf128_406 rfl (wh_at hw 0 rfl) rfl (fh_at hX0 28 rfl rfl) sy_refl) ?_
  refine sy_Fs (sy_bipush (v := 80) xc128_299 (by decide) (by decide) sy_refl) ?_
  refine sy_Fs (sy_ildn xc128_301 rfl rfl sy_refl) ?_
  refine sy_Fs (sx_imul (z := 80) xc128_302 (by decide)) ?_
  refine sy_Fs (sy_ild xc128_303 rfl rfl sy_refl) ?_
  refine sy_Fs (sx_iadd (z := 106) xc128_305 (by decide)) ?_
  refine sy_Fs (sy_iconst (v := 0) xc128_306 (by decide) sy_refl) ?_
  refine sy_Fw (i := 26) (x := (1, 1, 3200, (fz Fl 27))) hw (by decide) (sy_bas (i := 106) xc128_307 (wh_at hw 26 rfl) rfl (by decide) (by decide) rfl sy_refl) ?_
  intro w hw
  simp only [List.set_cons_zero, List.set_cons_succ] at hw
  refine sy_Fs (sx_iinc (c := 1) (z := 27) (ls' := [(2, pl 0, 0), (0, 1, 0), (0, 1, 0), (0, 1, 0), (0, 27, 0), (0, 24, 0), (0, 0, 0), (255, 0, 0)]) xc128_308 rfl (by decide) (by rw [xl128]; rfl) rfl (by decide) rfl) ?_
  refine sy_Fs (sy_goto (pc' := 288) xc128_311 (by decide) (by decide) sy_refl) ?_
  refine sy_Fs (sy_ild xc128_288 rfl rfl sy_refl) ?_
  refine sy_Fs (sy_bipush (v := 80) xc128_290 (by decide) (by decide) sy_refl) ?_
  refine sy_Fs (sy_ge_f xc128_292 (by decide) (by decide) (by decide) sy_refl) ?_
  refine sy_Fs (sy_aldn xc128_295 rfl rfl sy_refl) ?_
  refine sy_Fs (sy_gf xc128_296 xf128_406 rfl (wh_at hw 0 rfl) rfl (fh_at hX0 28 rfl rfl) sy_refl) ?_
  refine sy_Fs (sy_bipush (v := 80) xc128_299 (by decide) (by decide) sy_refl) ?_
  refine sy_Fs (sy_ildn xc128_301 rfl rfl sy_refl) ?_
  refine sy_Fs (sx_imul (z := 80) xc128_302 (by decide)) ?_
  refine sy_Fs (sy_ild xc128_303 rfl rfl sy_refl) ?_
  refine sy_Fs (sx_iadd (z := 107) xc128_305 (by decide)) ?_
  refine sy_Fs (sy_iconst (v := 0) xc128_306 (by decide) sy_refl) ?_
  refine sy_Fw (i := 26) (x := (1, 1, 3200, (fz Fl 28))) hw (by decide) (sy_bas (i := 107) xc128_307 (wh_at hw 26 rfl) rfl (by decide) (by decide) rfl sy_refl) ?_
  intro w hw
  simp only [List.set_cons_zero, List.set_cons_succ] at hw
  refine sy_Fs (sx_iinc (c := 1) (z := 28) (ls' := [(2, pl 0, 0), (0, 1, 0), (0, 1, 0), (0, 1, 0), (0, 28, 0), (0, 24, 0), (0, 0, 0), (255, 0, 0)]) xc128_308 rfl (by decide) (by rw [xl128]; rfl) rfl (by decide) rfl) ?_
  refine sy_Fs (sy_goto (pc' := 288) xc128_311 (by decide) (by decide) sy_refl) ?_
  refine sy_Fs (sy_ild xc128_288 rfl rfl sy_refl) ?_
  refine sy_Fs (sy_bipush (v := 80) xc128_290 (by decide) (by decide) sy_refl) ?_
  refine sy_Fs (sy_ge_f xc128_292 (by decide) (by decide) (by decide) sy_refl) ?_
  refine sy_Fs (sy_aldn xc128_295 rfl rfl sy_refl) ?_
  refine sy_Fs (sy_gf xc128_296 xf128_406 rfl (wh_at hw 0 rfl) rfl (fh_at hX0 28 rfl rfl) sy_refl) ?_
  refine sy_Fs (sy_bipush (v := 80) xc128_299 (by decide) (by decide) sy_refl) ?_
  refine sy_Fs (sy_ildn xc128_301 rfl rfl sy_refl) ?_
  refine sy_Fs (sx_imul (z := 80) xc128_302 (by decide)) ?_
  refine sy_Fs (sy_ild xc128_303 rfl rfl sy_refl) ?_
  refine sy_Fs (sx_iadd (z := 108) xc128_305 (by decide)) ?_
  refine sy_Fs (sy_iconst (v := 0) xc128_306 (by decide) sy_refl) ?_
  refine sy_Fw (i := 26) (x := (1, 1, 3200, (fz Fl 29))) hw (by decide) (sy_bas (i := 108) xc128_307 (wh_at hw 26 rfl) rfl (by decide) (by decide) rfl sy_refl) ?_
  intro w hw
  simp only [List.set_cons_zero, List.set_cons_succ] at hw
  refine sy_Fs (sx_iinc (c := 1) (z := 29) (ls' := [(2, pl 0, 0), (0, 1, 0), (0, 1, 0), (0, 1, 0), (0, 29, 0), (0, 24, 0), (0, 0, 0), (255, 0, 0)]) xc128_308 rfl (by decide) (by rw [xl128]; rfl) rfl (by decide) rfl) ?_
  refine sy_Fs (sy_goto (pc' := 288) xc128_311 (by decide) (by decide) sy_refl) ?_
  refine sy_Fs (sy_ild xc128_288 rfl rfl sy_refl) ?_
  refine sy_Fs (sy_bipush (v := 80) xc128_290 (by decide) (by decide) sy_refl) ?_
  refine sy_Fs (sy_ge_f xc128_292 (by decide) (by decide) (by decide) sy_refl) ?_
  refine sy_Fs (sy_aldn xc128_295 rfl rfl sy_refl) ?_
  refine sy_Fs (sy_gf xc128_296 xf128_406 rfl (wh_at hw 0 rfl) rfl (fh_at hX0 28 rfl rfl) sy_refl) ?_
  refine sy_Fs (sy_bipush (v := 80) xc128_299 (by decide) (by decide) sy_refl) ?_
  refine sy_Fs (sy_ildn xc128_301 rfl rfl sy_refl) ?_
  refine sy_Fs (sx_imul (z := 80) xc128_302 (by decide)) ?_
  refine sy_Fs (sy_ild xc128_303 rfl rfl sy_refl) ?_
  refine sy_Fs (sx_iadd (z := 109) xc128_305 (by decide)) ?_
  refine sy_Fs (sy_iconst (v := 0) xc128_306 (by decide) sy_refl) ?_
  refine sy_Fw (i := 26) (x := (1, 1, 3200, (fz Fl 30))) hw (by decide) (sy_bas (i := 109) xc128_307 (wh_at hw 26 rfl) rfl (by decide) (by decide) rfl sy_refl) ?_
  intro w hw
  simp only [List.set_cons_zero, List.set_cons_succ] at hw
  refine sy_Fs (sx_iinc (c := 1) (z := 30) (ls' := [(2, pl 0, 0), (0, 1, 0), (0, 1, 0), (0, 1, 0), (0, 30, 0), (0, 24, 0), (0, 0, 0), (255, 0, 0)]) xc128_308 rfl (by decide) (by rw [xl128]; rfl) rfl (by decide) rfl) ?_
  refine sy_Fs (sy_goto (pc' := 288) xc128_311 (by decide) (by decide) sy_refl) ?_
  refine sy_Fs (sy_ild xc128_288 rfl rfl sy_refl) ?_
  refine sy_Fs (sy_bipush (v := 80) xc128_290 (by decide) (by decide) sy_refl) ?_
  refine sy_Fs (sy_ge_f xc128_292 (by decide) (by decide) (by decide) sy_refl) ?_
  refine sy_Fs (sy_aldn xc128_295 rfl rfl sy_refl) ?_
  refine sy_Fs (sy_gf xc128_296 xf128_406 rfl (wh_at hw 0 rfl) rfl (fh_at hX0 28 rfl rfl) sy_refl) ?_
  refine sy_Fs (sy_bipush (v := 80) xc128_299 (by decide) (by decide) sy_refl) ?_
  refine sy_Fs (sy_ildn xc128_301 rfl rfl sy_refl) ?_
  refine sy_Fs (sx_imul (z := 80) xc128_302 (by decide)) ?_
  refine sy_Fs (sy_ild xc128_303 rfl rfl sy_refl) ?_
  refine sy_Fs (sx_iadd (z := 110) xc128_305 (by decide)) ?_
  refine sy_Fs (sy_iconst (v := 0) xc128_306 (by decide) sy_refl) ?_
  refine sy_Fw (i := 26) (x := (1, 1, 3200, (fz Fl 31))) hw (by decide) (sy_bas (i := 110) xc128_307 (wh_at hw 26 rfl) rfl (by decide) (by decide) rfl sy_refl) ?_
  intro w hw
  simp only [List.set_cons_zero, List.set_cons_succ] at hw
  refine sy_Fs (sx_iinc (c := 1) (z := 31) (ls' := [(2, pl 0, 0), (0, 1, 0), (0, 1, 0), (0, 1, 0), (0, 31, 0), (0, 24, 0), (0, 0, 0), (255, 0, 0)]) xc128_308 rfl (by decide) (by rw [xl128]; rfl) rfl (by decide) rfl) ?_
  refine sy_Fs (sy_goto (pc' := 288) xc128_311 (by decide) (by decide) sy_refl) ?_
  refine sy_Fs (sy_ild xc128_288 rfl rfl sy_refl) ?_
  refine sy_Fs (sy_bipush (v := 80) xc128_290 (by decide) (by decide) sy_refl) ?_
  refine sy_Fs (sy_ge_f xc128_292 (by decide) (by decide) (by decide) sy_refl) ?_
  refine sy_Fs (sy_aldn xc128_295 rfl rfl sy_refl) ?_
  refine sy_Fs (sy_gf xc128_296 xf128_406 rfl (wh_at hw 0 rfl) rfl (fh_at hX0 28 rfl rfl) sy_refl) ?_
  refine sy_Fs (sy_bipush (v := 80) xc128_299 (by decide) (by decide) sy_refl) ?_
  refine sy_Fs (sy_ildn xc128_301 rfl rfl sy_refl) ?_
  refine sy_Fs (sx_imul (z := 80) xc128_302 (by decide)) ?_
  refine sy_Fs (sy_ild xc128_303 rfl rfl sy_refl) ?_
  refine sy_Fs (sx_iadd (z := 111) xc128_305 (by decide)) ?_
  refine sy_Fs (sy_iconst (v := 0) xc128_306 (by decide) sy_refl) ?_
  refine sy_Fw (i := 26) (x := (1, 1, 3200, (fz Fl 32))) hw (by decide) (sy_bas (i := 111) xc128_307 (wh_at hw 26 rfl) rfl (by decide) (by decide) rfl sy_refl) ?_
  intro w hw
  simp only [List.set_cons_zero, List.set_cons_succ] at hw
  refine sy_Fs (sx_iinc (c := 1) (z := 32) (ls' := [(2, pl 0, 0), (0, 1, 0), (0, 1, 0), (0, 1, 0), (0, 32, 0), (0, 24, 0), (0, 0, 0), (255, 0, 0)]) xc128_308 rfl (by decide) (by rw [xl128]; rfl) rfl (by decide) rfl) ?_
  refine sy_Fs (sy_goto (pc' := 288) xc128_311 (by decide) (by decide) sy_refl) ?_
  refine sy_Fs (sy_ild xc128_288 rfl rfl sy_refl) ?_
  refine sy_Fs (sy_bipush (v := 80) xc128_290 (by decide) (by decide) sy_refl) ?_
  refine sy_Fs (sy_ge_f xc128_292 (by decide) (by decide) (by decide) sy_refl) ?_
  refine sy_Fs (sy_aldn xc128_295 rfl rfl sy_refl) ?_
  refine sy_Fs (sy_gf xc128_296 xf128_406 rfl (wh_at hw 0 rfl) rfl (fh_at hX0 28 rfl rfl) sy_refl) ?_
  refine sy_Fs (sy_bipush (v := 80) xc128_299 (by decide) (by decide) sy_refl) ?_
  refine sy_Fs (sy_ildn xc128_301 rfl rfl sy_refl) ?_
  refine sy_Fs (sx_imul (z := 80) xc128_302 (by decide)) ?_
  refine sy_Fs (sy_ild xc128_303 rfl rfl sy_refl) ?_
  refine sy_Fs (sx_iadd (z := 112) xc128_305 (by decide)) ?_
  refine sy_Fs (sy_iconst (v := 0) xc128_306 (by decide) sy_refl) ?_
  refine sy_Fw (i := 26) (x := (1, 1, 3200, (fz Fl 33))) hw (by decide) (sy_bas (i := 112) xc128_307 (wh_at hw 26 rfl) rfl (by decide) (by decide) rfl sy_refl) ?_
  intro w hw
  simp only [List.set_cons_zero, List.set_cons_succ] at hw
  refine sy_Fs (sx_iinc (c := 1) (z := 33) (ls' := [(2, pl 0, 0), (0, 1, 0), (0, 1, 0), (0, 1, 0), (0, 33, 0), (0, 24, 0), (0, 0, 0), (255, 0, 0)]) xc128_308 rfl (by decide) (by rw [xl128]; rfl) rfl (by decide) rfl) ?_
  refine sy_Fs (sy_goto (pc' := 288) xc128_311 (by decide) (by decide) sy_refl) ?_
  refine sy_Fs (sy_ild xc128_288 rfl rfl sy_refl) ?_
  refine sy_Fs (sy_bipush (v := 80) xc128_290 (by decide) (by decide) sy_refl) ?_
  refine sy_Fs (sy_ge_f xc128_292 (by decide) (by decide) (by decide) sy_refl) ?_
  refine sy_Fs (sy_aldn xc128_295 rfl rfl sy_refl) ?_
  refine sy_Fs (sy_gf xc128_296 xf128_406 rfl (wh_at hw 0 rfl) rfl (fh_at hX0 28 rfl rfl) sy_refl) ?_
  refine sy_Fs (sy_bipush (v := 80) xc128_299 (by decide) (by decide) sy_refl) ?_
  refine sy_Fs (sy_ildn xc128_301 rfl rfl sy_refl) ?_
  refine sy_Fs (sx_imul (z := 80) xc128_302 (by decide)) ?_
  refine sy_Fs (sy_ild xc128_303 rfl rfl sy_refl) ?_
  refine sy_Fs (sx_iadd (z := 113) xc128_305 (by decide)) ?_
  refine sy_Fs (sy_iconst (v := 0) xc128_306 (by decide) sy_refl) ?_
  refine sy_Fw (i := 26) (x := (1, 1, 3200, (fz Fl 34))) hw (by decide) (sy_bas (i := 113) xc128_307 (wh_at hw 26 rfl) rfl (by decide) (by decide) rfl sy_refl) ?_
  intro w hw
  simp only [List.set_cons_zero, List.set_cons_succ] at hw
  refine sy_Fs (sx_iinc (c := 1) (z := 34) (ls' := [(2, pl 0, 0), (0, 1, 0), (0, 1, 0), (0, 1, 0), (0, 34, 0), (0, 24, 0), (0, 0, 0), (255, 0, 0)]) xc128_308 rfl (by decide) (by rw [xl128]; rfl) rfl (by decide) rfl) ?_
  refine sy_Fs (sy_goto (pc' := 288) xc128_311 (by decide) (by decide) sy_refl) ?_
  refine sy_Fs (sy_ild xc128_288 rfl rfl sy_refl) ?_
  refine sy_Fs (sy_bipush (v := 80) xc128_290 (by decide) (by decide) sy_refl) ?_
  refine sy_Fs (sy_ge_f xc128_292 (by decide) (by decide) (by decide) sy_refl) ?_
  refine sy_Fs (sy_aldn xc128_295 rfl rfl sy_refl) ?_
  refine sy_Fs (sy_gf xc128_296 xf128_406 rfl (wh_at hw 0 rfl) rfl (fh_at hX0 28 rfl rfl) sy_refl) ?_
  refine sy_Fs (sy_bipush (v := 80) xc128_299 (by decide) (by decide) sy_refl) ?_
  refine sy_Fs (sy_ildn xc128_301 rfl rfl sy_refl) ?_
  refine sy_Fs (sx_imul (z := 80) xc128_302 (by decide)) ?_
  refine sy_Fs (sy_ild xc128_303 rfl rfl sy_refl) ?_
  refine sy_Fs (sx_iadd (z := 114) xc128_305 (by decide)) ?_
  refine sy_Fs (sy_iconst (v := 0) xc128_306 (by decide) sy_refl) ?_
  refine sy_Fw (i := 26) (x := (1, 1, 3200, (fz Fl 35))) hw (by decide) (sy_bas (i := 114) xc128_307 (wh_at hw 26 rfl) rfl (by decide) (by decide) rfl sy_refl) ?_
  intro w hw
  simp only [List.set_cons_zero, List.set_cons_succ] at hw
  refine sy_Fs (sx_iinc (c := 1) (z := 35) (ls' := [(2, pl 0, 0), (0, 1, 0), (0, 1, 0), (0, 1, 0), (0, 35, 0), (0, 24, 0), (0, 0, 0), (255, 0, 0)]) xc128_308 rfl (by decide) (by rw [xl128]; rfl) rfl (by decide) rfl) ?_
  refine sy_Fs (sy_goto (pc' := 288) xc128_311 (by decide) (by decide) sy_refl) ?_
  refine sy_Fs (sy_ild xc128_288 rfl rfl sy_refl) ?_
  refine sy_Fs (sy_bipush (v := 80) xc128_290 (by decide) (by decide) sy_refl) ?_
  refine sy_Fs (sy_ge_f xc128_292 (by decide) (by decide) (by decide) sy_refl) ?_
  refine sy_Fs (sy_aldn xc128_295 rfl rfl sy_refl) ?_
  refine sy_Fs (sy_gf xc128_296 xf128_406 rfl (wh_at hw 0 rfl) rfl (fh_at hX0 28 rfl rfl) sy_refl) ?_
  refine sy_Fs (sy_bipush (v := 80) xc128_299 (by decide) (by decide) sy_refl) ?_
  refine sy_Fs (sy_ildn xc128_301 rfl rfl sy_refl) ?_
  refine sy_Fs (sx_imul (z := 80) xc128_302 (by decide)) ?_
  refine sy_Fs (sy_ild xc128_303 rfl rfl sy_refl) ?_
  refine sy_Fs (sx_iadd (z := 115) xc128_305 (by decide)) ?_
  refine sy_Fs (sy_iconst (v := 0) xc128_306 (by decide) sy_refl) ?_
  refine sy_Fw (i := 26) (x := (1, 1, 3200, (fz Fl 36))) hw (by decide) (sy_bas (i := 115) xc128_307 (wh_at hw 26 rfl) rfl (by decide) (by decide) rfl sy_refl) ?_
  intro w hw
  simp only [List.set_cons_zero, List.set_cons_succ] at hw
  refine sy_Fs (sx_iinc (c := 1) (z := 36) (ls' := [(2, pl 0, 0), (0, 1, 0), (0, 1, 0), (0, 1, 0), (0, 36, 0), (0, 24, 0), (0, 0, 0), (255, 0, 0)]) xc128_308 rfl (by decide) (by rw [xl128]; rfl) rfl (by decide) rfl) ?_
  refine sy_Fs (sy_goto (pc' := 288) xc128_311 (by decide) (by decide) sy_refl) ?_
  refine sy_Fs (sy_ild xc128_288 rfl rfl sy_refl) ?_
  refine sy_Fs (sy_bipush (v := 80) xc128_290 (by decide) (by decide) sy_refl) ?_
  refine sy_Fs (sy_ge_f xc128_292 (by decide) (by decide) (by decide) sy_refl) ?_
  refine sy_Fs (sy_aldn xc128_295 rfl rfl sy_refl) ?_
  refine sy_Fs (sy_gf xc128_296 xf128_406 rfl (wh_at hw 0 rfl) rfl (fh_at hX0 28 rfl rfl) sy_refl) ?_
  refine sy_Fs (sy_bipush (v := 80) xc128_299 (by decide) (by decide) sy_refl) ?_
  refine sy_Fs (sy_ildn xc128_301 rfl rfl sy_refl) ?_
  refine sy_Fs (sx_imul (z := 80) xc128_302 (by decide)) ?_
  refine sy_Fs (sy_ild xc128_303 rfl rfl sy_refl) ?_
  refine sy_Fs (sx_iadd (z := 116) xc128_305 (by decide)) ?_
  refine sy_Fs (sy_iconst (v := 0) xc128_306 (by decide) sy_refl) ?_
  refine sy_Fw (i := 26) (x := (1, 1, 3200, (fz Fl 37))) hw (by decide) (sy_bas (i := 116) xc128_307 (wh_at hw 26 rfl) rfl (by decide) (by decide) rfl sy_refl) ?_
  intro w hw
  simp only [List.set_cons_zero, List.set_cons_succ] at hw
  refine sy_Fs (sx_iinc (c := 1) (z := 37) (ls' := [(2, pl 0, 0), (0, 1, 0), (0, 1, 0), (0, 1, 0), (0, 37, 0), (0, 24, 0), (0, 0, 0), (255, 0, 0)]) xc128_308 rfl (by decide) (by rw [xl128]; rfl) rfl (by decide) rfl) ?_
  refine sy_Fs (sy_goto (pc' := 288) xc128_311 (by decide) (by decide) sy_refl) ?_
  refine sy_Fs (sy_ild xc128_288 rfl rfl sy_refl) ?_
  refine sy_Fs (sy_bipush (v := 80) xc128_290 (by decide) (by decide) sy_refl) ?_
  refine sy_Fs (sy_ge_f xc128_292 (by decide) (by decide) (by decide) sy_refl) ?_
  refine sy_Fs (sy_aldn xc128_295 rfl rfl sy_refl) ?_
  refine sy_Fs (sy_gf xc128_296 xf128_406 rfl (wh_at hw 0 rfl) rfl (fh_at hX0 28 rfl rfl) sy_refl) ?_
  refine sy_Fs (sy_bipush (v := 80) xc128_299 (by decide) (by decide) sy_refl) ?_
  refine sy_Fs (sy_ildn xc128_301 rfl rfl sy_refl) ?_
  refine sy_Fs (sx_imul (z := 80) xc128_302 (by decide)) ?_
  refine sy_Fs (sy_ild xc128_303 rfl rfl sy_refl) ?_
  refine sy_Fs (sx_iadd (z := 117) xc128_305 (by decide)) ?_
  refine sy_Fs (sy_iconst (v := 0) xc128_306 (by decide) sy_refl) ?_
  refine sy_Fw (i := 26) (x := (1, 1, 3200, (fz Fl 38))) hw (by decide) (sy_bas (i := 117) xc128_307 (wh_at hw 26 rfl) rfl (by decide) (by decide) rfl sy_refl) ?_
  intro w hw
  simp only [List.set_cons_zero, List.set_cons_succ] at hw
  refine sy_Fs (sx_iinc (c := 1) (z := 38) (ls' := [(2, pl 0, 0), (0, 1, 0), (0, 1, 0), (0, 1, 0), (0, 38, 0), (0, 24, 0), (0, 0, 0), (255, 0, 0)]) xc128_308 rfl (by decide) (by rw [xl128]; rfl) rfl (by decide) rfl) ?_
  refine sy_Fs (sy_goto (pc' := 288) xc128_311 (by decide) (by decide) sy_refl) ?_
  refine sy_Fs (sy_ild xc128_288 rfl rfl sy_refl) ?_
  refine sy_Fs (sy_bipush (v := 80) xc128_290 (by decide) (by decide) sy_refl) ?_
  refine sy_Fs (sy_ge_f xc128_292 (by decide) (by decide) (by decide) sy_refl) ?_
  refine sy_Fs (sy_aldn xc128_295 rfl rfl sy_refl) ?_
  refine sy_Fs (sy_gf xc128_296 xf128_406 rfl (wh_at hw 0 rfl) rfl (fh_at hX0 28 rfl rfl) sy_refl) ?_
  refine sy_Fs (sy_bipush (v := 80) xc128_299 (by decide) (by decide) sy_refl) ?_
  refine sy_Fs (sy_ildn xc128_301 rfl rfl sy_refl) ?_
  refine sy_Fs (sx_imul (z := 80) xc128_302 (by decide)) ?_
  refine sy_Fs (sy_ild xc128_303 rfl rfl sy_refl) ?_
  refine sy_Fs (sx_iadd (z := 118) xc128_305 (by decide)) ?_
  refine sy_Fs (sy_iconst (v := 0) xc128_306 (by decide) sy_refl) ?_
  refine sy_Fw (i := 26) (x := (1, 1, 3200, (fz Fl 39))) hw (by decide) (sy_bas (i := 118) xc128_307 (wh_at hw 26 rfl) rfl (by decide) (by decide) rfl sy_refl) ?_
  intro w hw
  simp only [List.set_cons_zero, List.set_cons_succ] at hw
  refine sy_Fs (sx_iinc (c := 1) (z := 39) (ls' := [(2, pl 0, 0), (0, 1, 0), (0, 1, 0), (0, 1, 0), (0, 39, 0), (0, 24, 0), (0, 0, 0), (255, 0, 0)]) xc128_308 rfl (by decide) (by rw [xl128]; rfl) rfl (by decide) rfl) ?_
  refine sy_Fs (sy_goto (pc' := 288) xc128_311 (by decide) (by decide) sy_refl) ?_
  refine sy_Fs (sy_ild xc128_288 rfl rfl sy_refl) ?_
  refine sy_Fs (sy_bipush (v := 80) xc128_290 (by decide) (by decide) sy_refl) ?_
  refine sy_Fs (sy_ge_f xc128_292 (by decide) (by decide) (by decide) sy_refl) ?_
  refine sy_Fs (sy_aldn xc128_295 rfl rfl sy_refl) ?_
  refine sy_Fs (sy_gf xc128_296 xf128_406 rfl (wh_at hw 0 rfl) rfl (fh_at hX0 28 rfl rfl) sy_refl) ?_
  refine sy_Fs (sy_bipush (v := 80) xc128_299 (by decide) (by decide) sy_refl) ?_
  refine sy_Fs (sy_ildn xc128_301 rfl rfl sy_refl) ?_
  refine sy_Fs (sx_imul (z := 80) xc128_302 (by decide)) ?_
  refine sy_Fs (sy_ild xc128_303 rfl rfl sy_refl) ?_
  refine sy_Fs (sx_iadd (z := 119) xc128_305 (by decide)) ?_
  refine sy_Fs (sy_iconst (v := 0) xc128_306 (by decide) sy_refl) ?_
  refine sy_Fw (i := 26) (x := (1, 1, 3200, (fz Fl 40))) hw (by decide) (sy_bas (i := 119) xc128_307 (wh_at hw 26 rfl) rfl (by decide) (by decide) rfl sy_refl) ?_
  intro w hw
  simp only [List.set_cons_zero, List.set_cons_succ] at hw
  refine sy_Fs (sx_iinc (c := 1) (z := 40) (ls' := [(2, pl 0, 0), (0, 1, 0), (0, 1, 0), (0, 1, 0), (0, 40, 0), (0, 24, 0), (0, 0, 0), (255, 0, 0)]) xc128_308 rfl (by decide) (by rw [xl128]; rfl) rfl (by decide) rfl) ?_
  refine sy_Fs (sy_goto (pc' := 288) xc128_311 (by decide) (by decide) sy_refl) ?_
  refine sy_Fs (sy_ild xc128_288 rfl rfl sy_refl) ?_
  refine sy_Fs (sy_bipush (v := 80) xc128_290 (by decide) (by decide) sy_refl) ?_
  refine sy_Fs (sy_ge_f xc128_292 (by decide) (by decide) (by decide) sy_refl) ?_
  refine sy_Fs (sy_aldn xc128_295 rfl rfl sy_refl) ?_
  refine sy_Fs (sy_gf xc128_296 xf128_406 rfl (wh_at hw 0 rfl) rfl (fh_at hX0 28 rfl rfl) sy_refl) ?_
  refine sy_Fs (sy_bipush (v := 80) xc128_299 (by decide) (by decide) sy_refl) ?_
  refine sy_Fs (sy_ildn xc128_301 rfl rfl sy_refl) ?_
  refine sy_Fs (sx_imul (z := 80) xc128_302 (by decide)) ?_
  refine sy_Fs (sy_ild xc128_303 rfl rfl sy_refl) ?_
  refine sy_Fs (sx_iadd (z := 120) xc128_305 (by decide)) ?_
  refine sy_Fs (sy_iconst (v := 0) xc128_306 (by decide) sy_refl) ?_
  refine sy_Fw (i := 26) (x := (1, 1, 3200, (fz Fl 41))) hw (by decide) (sy_bas (i := 120) xc128_307 (wh_at hw 26 rfl) rfl (by decide) (by decide) rfl sy_refl) ?_
  intro w hw
  simp only [List.set_cons_zero, List.set_cons_succ] at hw
  refine sy_Fs (sx_iinc (c := 1) (z := 41) (ls' := [(2, pl 0, 0), (0, 1, 0), (0, 1, 0), (0, 1, 0), (0, 41, 0), (0, 24, 0), (0, 0, 0), (255, 0, 0)]) xc128_308 rfl (by decide) (by rw [xl128]; rfl) rfl (by decide) rfl) ?_
  refine sy_Fs (sy_goto (pc' := 288) xc128_311 (by decide) (by decide) sy_refl) ?_
  refine sy_Fs (sy_ild xc128_288 rfl rfl sy_refl) ?_
  refine sy_Fs (sy_bipush (v := 80) xc128_290 (by decide) (by decide) sy_refl) ?_
  refine sy_Fs (sy_ge_f xc128_292 (by decide) (by decide) (by decide) sy_refl) ?_
  refine sy_Fs (sy_aldn xc128_295 rfl rfl sy_refl) ?_
  refine sy_Fs (sy_gf xc128_296 xf128_406 rfl (wh_at hw 0 rfl) rfl (fh_at hX0 28 rfl rfl) sy_refl) ?_
  refine sy_Fs (sy_bipush (v := 80) xc128_299 (by decide) (by decide) sy_refl) ?_
  refine sy_Fs (sy_ildn xc128_301 rfl rfl sy_refl) ?_
  refine sy_Fs (sx_imul (z := 80) xc128_302 (by decide)) ?_
  refine sy_Fs (sy_ild xc128_303 rfl rfl sy_refl) ?_
  refine sy_Fs (sx_iadd (z := 121) xc128_305 (by decide)) ?_
  refine sy_Fs (sy_iconst (v := 0) xc128_306 (by decide) sy_refl) ?_
  refine sy_Fw (i := 26) (x := (1, 1, 3200, (fz Fl 42))) hw (by decide) (sy_bas (i := 121) xc128_307 (wh_at hw 26 rfl) rfl (by decide) (by decide) rfl sy_refl) ?_
  intro w hw
  simp only [List.set_cons_zero, List.set_cons_succ] at hw
  refine sy_Fs (sx_iinc (c := 1) (z := 42) (ls' := [(2, pl 0, 0), (0, 1, 0), (0, 1, 0), (0, 1, 0), (0, 42, 0), (0, 24, 0), (0, 0, 0), (255, 0, 0)]) xc128_308 rfl (by decide) (by rw [xl128]; rfl) rfl (by decide) rfl) ?_
  refine sy_Fs (sy_goto (pc' := 288) xc128_311 (by decide) (by decide) sy_refl) ?_
  refine sy_Fs (sy_ild xc128_288 rfl rfl sy_refl) ?_
  refine sy_Fs (sy_bipush (v := 80) xc128_290 (by decide) (by decide) sy_refl) ?_
  refine sy_Fs (sy_ge_f xc128_292 (by decide) (by decide) (by decide) sy_refl) ?_
  refine sy_Fs (sy_aldn xc128_295 rfl rfl sy_refl) ?_
  refine sy_Fs (sy_gf xc128_296 xf128_406 rfl (wh_at hw 0 rfl) rfl (fh_at hX0 28 rfl rfl) sy_refl) ?_
  refine sy_Fs (sy_bipush (v := 80) xc128_299 (by decide) (by decide) sy_refl) ?_
  refine sy_Fs (sy_ildn xc128_301 rfl rfl sy_refl) ?_
  refine sy_Fs (sx_imul (z := 80) xc128_302 (by decide)) ?_
  refine sy_Fs (sy_ild xc128_303 rfl rfl sy_refl) ?_
  refine sy_Fs (sx_iadd (z := 122) xc128_305 (by decide)) ?_
  refine sy_Fs (sy_iconst (v := 0) xc128_306 (by decide) sy_refl) ?_
  refine sy_Fw (i := 26) (x := (1, 1, 3200, (fz Fl 43))) hw (by decide) (sy_bas (i := 122) xc128_307 (wh_at hw 26 rfl) rfl (by decide) (by decide) rfl sy_refl) ?_
  intro w hw
  simp only [List.set_cons_zero, List.set_cons_succ] at hw
  refine sy_Fs (sx_iinc (c := 1) (z := 43) (ls' := [(2, pl 0, 0), (0, 1, 0), (0, 1, 0), (0, 1, 0), (0, 43, 0), (0, 24, 0), (0, 0, 0), (255, 0, 0)]) xc128_308 rfl (by decide) (by rw [xl128]; rfl) rfl (by decide) rfl) ?_
  refine sy_Fs (sy_goto (pc' := 288) xc128_311 (by decide) (by decide) sy_refl) ?_
  refine sy_Fs (sy_ild xc128_288 rfl rfl sy_refl) ?_
  refine sy_Fs (sy_bipush (v := 80) xc128_290 (by decide) (by decide) sy_refl) ?_
  refine sy_Fs (sy_ge_f xc128_292 (by decide) (by decide) (by decide) sy_refl) ?_
  refine sy_Fs (sy_aldn xc128_295 rfl rfl sy_refl) ?_
  refine sy_Fs (sy_gf xc128_296 xf128_406 rfl (wh_at hw 0 rfl) rfl (fh_at hX0 28 rfl rfl) sy_refl) ?_
  refine sy_Fs (sy_bipush (v := 80) xc128_299 (by decide) (by decide) sy_refl) ?_
  refine sy_Fs (sy_ildn xc128_301 rfl rfl sy_refl) ?_
  refine sy_Fs (sx_imul (z := 80) xc128_302 (by decide)) ?_
  refine sy_Fs (sy_ild xc128_303 rfl rfl sy_refl) ?_
  refine sy_Fs (sx_iadd (z := 123) xc128_305 (by decide)) ?_
  refine sy_Fs (sy_iconst (v := 0) xc128_306 (by decide) sy_refl) ?_
  refine sy_Fw (i := 26) (x := (1, 1, 3200, (fz Fl 44))) hw (by decide) (sy_bas (i := 123) xc128_307 (wh_at hw 26 rfl) rfl (by decide) (by decide) rfl sy_refl) ?_
  intro w hw
  simp only [List.set_cons_zero, List.set_cons_succ] at hw
  refine sy_Fs (sx_iinc (c := 1) (z := 44) (ls' := [(2, pl 0, 0), (0, 1, 0), (0, 1, 0), (0, 1, 0), (0, 44, 0), (0, 24, 0), (0, 0, 0), (255, 0, 0)]) xc128_308 rfl (by decide) (by rw [xl128]; rfl) rfl (by decide) rfl) ?_
  refine sy_Fs (sy_goto (pc' := 288) xc128_311 (by decide) (by decide) sy_refl) ?_
  refine sy_Fs (sy_ild xc128_288 rfl rfl sy_refl) ?_
  refine sy_Fs (sy_bipush (v := 80) xc128_290 (by decide) (by decide) sy_refl) ?_
  refine sy_Fs (sy_ge_f xc128_292 (by decide) (by decide) (by decide) sy_refl) ?_
  refine sy_Fs (sy_aldn xc128_295 rfl rfl sy_refl) ?_
  refine sy_Fs (sy_gf xc128_296 xf128_406 rfl (wh_at hw 0 rfl) rfl (fh_at hX0 28 rfl rfl) sy_refl) ?_
  refine sy_Fs (sy_bipush (v := 80) xc128_299 (by decide) (by decide) sy_refl) ?_
  refine sy_Fs (sy_ildn xc128_301 rfl rfl sy_refl) ?_
  refine sy_Fs (sx_imul (z := 80) xc128_302 (by decide)) ?_
  refine sy_Fs (sy_ild xc128_303 rfl rfl sy_refl) ?_
  refine sy_Fs (sx_iadd (z := 124) xc128_305 (by decide)) ?_
  refine sy_Fs (sy_iconst (v := 0) xc128_306 (by decide) sy_refl) ?_
  refine sy_Fw (i := 26) (x := (1, 1, 3200, (fz Fl 45))) hw (by decide) (sy_bas (i := 124) xc128_307 (wh_at hw 26 rfl) rfl (by decide) (by decide) rfl sy_refl) ?_
  intro w hw
  simp only [List.set_cons_zero, List.set_cons_succ] at hw
  refine sy_Fs (sx_iinc (c := 1) (z := 45) (ls' := [(2, pl 0, 0), (0, 1, 0), (0, 1, 0), (0, 1, 0), (0, 45, 0), (0, 24, 0), (0, 0, 0), (255, 0, 0)]) xc128_308 rfl (by decide) (by rw [xl128]; rfl) rfl (by decide) rfl) ?_
  refine sy_Fs (sy_goto (pc' := 288) xc128_311 (by decide) (by decide) sy_refl) ?_
  refine sy_Fs (sy_ild xc128_288 rfl rfl sy_refl) ?_
  refine sy_Fs (sy_bipush (v := 80) xc128_290 (by decide) (by decide) sy_refl) ?_
  refine sy_Fs (sy_ge_f xc128_292 (by decide) (by decide) (by decide) sy_refl) ?_
  refine sy_Fs (sy_aldn xc128_295 rfl rfl sy_refl) ?_
  refine sy_Fs (sy_gf xc128_296 xf128_406 rfl (wh_at hw 0 rfl) rfl (fh_at hX0 28 rfl rfl) sy_refl) ?_
  refine sy_Fs (sy_bipush (v := 80) xc128_299 (by decide) (by decide) sy_refl) ?_
  refine sy_Fs (sy_ildn xc128_301 rfl rfl sy_refl) ?_
  refine sy_Fs (sx_imul (z := 80) xc128_302 (by decide)) ?_
  refine sy_Fs (sy_ild xc128_303 rfl rfl sy_refl) ?_
  refine sy_Fs (sx_iadd (z := 125) xc128_305 (by decide)) ?_
  refine sy_Fs (sy_iconst (v := 0) xc128_306 (by decide) sy_refl) ?_
  refine sy_Fw (i := 26) (x := (1, 1, 3200, (fz Fl 46))) hw (by decide) (sy_bas (i := 125) xc128_307 (wh_at hw 26 rfl) rfl (by decide) (by decide) rfl sy_refl) ?_
  intro w hw
  simp only [List.set_cons_zero, List.set_cons_succ] at hw
  refine sy_Fs (sx_iinc (c := 1) (z := 46) (ls' := [(2, pl 0, 0), (0, 1, 0), (0, 1, 0), (0, 1, 0), (0, 46, 0), (0, 24, 0), (0, 0, 0), (255, 0, 0)]) xc128_308 rfl (by decide) (by rw [xl128]; rfl) rfl (by decide) rfl) ?_
  refine sy_Fs (sy_goto (pc' := 288) xc128_311 (by decide) (by decide) sy_refl) ?_
  refine sy_Fs (sy_ild xc128_288 rfl rfl sy_refl) ?_
  refine sy_Fs (sy_bipush (v := 80) xc128_290 (by decide) (by decide) sy_refl) ?_
  refine sy_Fs (sy_ge_f xc128_292 (by decide) (by decide) (by decide) sy_refl) ?_
  refine sy_Fs (sy_aldn xc128_295 rfl rfl sy_refl) ?_
  refine sy_Fs (sy_gf xc128_296 xf128_406 rfl (wh_at hw 0 rfl) rfl (fh_at hX0 28 rfl rfl) sy_refl) ?_
  refine sy_Fs (sy_bipush (v := 80) xc128_299 (by decide) (by decide) sy_refl) ?_
  refine sy_Fs (sy_ildn xc128_301 rfl rfl sy_refl) ?_
  refine sy_Fs (sx_imul (z := 80) xc128_302 (by decide)) ?_
  refine sy_Fs (sy_ild xc128_303 rfl rfl sy_refl) ?_
  refine sy_Fs (sx_iadd (z := 126) xc128_305 (by decide)) ?_
  refine sy_Fs (sy_iconst (v := 0) xc128_306 (by decide) sy_refl) ?_
  refine sy_Fw (i := 26) (x := (1, 1, 3200, (fz Fl 47))) hw (by decide) (sy_bas (i := 126) xc128_307 (wh_at hw 26 rfl) rfl (by decide) (by decide) rfl sy_refl) ?_
  intro w hw
  simp only [List.set_cons_zero, List.set_cons_succ] at hw
  refine sy_Fs (sx_iinc (c := 1) (z := 47) (ls' := [(2, pl 0, 0), (0, 1, 0), (0, 1, 0), (0, 1, 0), (0, 47, 0), (0, 24, 0), (0, 0, 0), (255, 0, 0)]) xc128_308 rfl (by decide) (by rw [xl128]; rfl) rfl (by decide) rfl) ?_
  refine sy_Fs (sy_goto (pc' := 288) xc128_311 (by decide) (by decide) sy_refl) ?_
  refine sy_Fs (sy_ild xc128_288 rfl rfl sy_refl) ?_
  refine sy_Fs (sy_bipush (v := 80) xc128_290 (by decide) (by decide) sy_refl) ?_
  refine sy_Fs (sy_ge_f xc128_292 (by decide) (by decide) (by decide) sy_refl) ?_
  refine sy_Fs (sy_aldn xc128_295 rfl rfl sy_refl) ?_
  refine sy_Fs (sy_gf xc128_296 xf128_406 rfl (wh_at hw 0 rfl) rfl (fh_at hX0 28 rfl rfl) sy_refl) ?_
  refine sy_Fs (sy_bipush (v := 80) xc128_299 (by decide) (by decide) sy_refl) ?_
  refine sy_Fs (sy_ildn xc128_301 rfl rfl sy_refl) ?_
  refine sy_Fs (sx_imul (z := 80) xc128_302 (by decide)) ?_
  refine sy_Fs (sy_ild xc128_303 rfl rfl sy_refl) ?_
  refine sy_Fs (sx_iadd (z := 127) xc128_305 (by decide)) ?_
  refine sy_Fs (sy_iconst (v := 0) xc128_306 (by decide) sy_refl) ?_
  refine sy_Fw (i := 26) (x := (1, 1, 3200, (fz Fl 48))) hw (by decide) (sy_bas (i := 127) xc128_307 (wh_at hw 26 rfl) rfl (by decide) (by decide) rfl sy_refl) ?_
  intro w hw
  simp only [List.set_cons_zero, List.set_cons_succ] at hw
  refine sy_Fs (sx_iinc (c := 1) (z := 48) (ls' := [(2, pl 0, 0), (0, 1, 0), (0, 1, 0), (0, 1, 0), (0, 48, 0), (0, 24, 0), (0, 0, 0), (255, 0, 0)]) xc128_308 rfl (by decide) (by rw [xl128]; rfl) rfl (by decide) rfl) ?_
  refine sy_Fs (sy_goto (pc' := 288) xc128_311 (by decide) (by decide) sy_refl) ?_
  refine sy_Fs (sy_ild xc128_288 rfl rfl sy_refl) ?_
  refine sy_Fs (sy_bipush (v := 80) xc128_290 (by decide) (by decide) sy_refl) ?_
  refine sy_Fs (sy_ge_f xc128_292 (by decide) (by decide) (by decide) sy_refl) ?_
  refine sy_Fs (sy_aldn xc128_295 rfl rfl sy_refl) ?_
  refine sy_Fs (sy_gf xc128_296 xf128_406 rfl (wh_at hw 0 rfl) rfl (fh_at hX0 28 rfl rfl) sy_refl) ?_
  refine sy_Fs (sy_bipush (v := 80) xc128_299 (by decide) (by decide) sy_refl) ?_
  refine sy_Fs (sy_ildn xc128_301 rfl rfl sy_refl) ?_
  refine sy_Fs (sx_imul (z := 80) xc128_302 (by decide)) ?_
  refine sy_Fs (sy_ild xc128_303 rfl rfl sy_refl) ?_
  refine sy_Fs (sx_iadd (z := 128) xc128_305 (by decide)) ?_
  refine sy_Fs (sy_iconst (v := 0) xc128_306 (by decide) sy_refl) ?_
  refine sy_Fw (i := 26) (x := (1, 1, 3200, (fz Fl 49))) hw (by decide) (sy_bas (i := 128) xc128_307 (wh_at hw 26 rfl) rfl (by decide) (by decide) rfl sy_refl) ?_
  intro w hw
  simp only [List.set_cons_zero, List.set_cons_succ] at hw
  refine sy_Fs (sx_iinc (c := 1) (z := 49) (ls' := [(2, pl 0, 0), (0, 1, 0), (0, 1, 0), (0, 1, 0), (0, 49, 0), (0, 24, 0), (0, 0, 0), (255, 0, 0)]) xc128_308 rfl (by decide) (by rw [xl128]; rfl) rfl (by decide) rfl) ?_
  refine sy_Fs (sy_goto (pc' := 288) xc128_311 (by decide) (by decide) sy_refl) ?_
  refine sy_Fs (sy_ild xc128_288 rfl rfl sy_refl) ?_
  refine sy_Fs (sy_bipush (v := 80) xc128_290 (by decide) (by decide) sy_refl) ?_
  refine sy_Fs (sy_ge_f xc128_292 (by decide) (by decide) (by decide) sy_refl) ?_
  refine sy_Fs (sy_aldn xc128_295 rfl rfl sy_refl) ?_
  refine sy_Fs (sy_gf xc128_296 xf128_406 rfl (wh_at hw 0 rfl) rfl (fh_at hX0 28 rfl rfl) sy_refl) ?_
  refine sy_Fs (sy_bipush (v := 80) xc128_299 (by decide) (by decide) sy_refl) ?_
  refine sy_Fs (sy_ildn xc128_301 rfl rfl sy_refl) ?_
  refine sy_Fs (sx_imul (z := 80) xc128_302 (by decide)) ?_
  refine sy_Fs (sy_ild xc128_303 rfl rfl sy_refl) ?_
  refine sy_Fs (sx_iadd (z := 129) xc128_305 (by decide)) ?_
  refine sy_Fs (sy_iconst (v := 0) xc128_306 (by decide) sy_refl) ?_
  refine sy_Fw (i := 26) (x := (1, 1, 3200, (fz Fl 50))) hw (by decide) (sy_bas (i := 129) xc128_307 (wh_at hw 26 rfl) rfl (by decide) (by decide) rfl sy_refl) ?_
  intro w hw
  simp only [List.set_cons_zero, List.set_cons_succ] at hw
  refine sy_Fs (sx_iinc (c := 1) (z := 50) (ls' := [(2, pl 0, 0), (0, 1, 0), (0, 1, 0), (0, 1, 0), (0, 50, 0), (0, 24, 0), (0, 0, 0), (255, 0, 0)]) xc128_308 rfl (by decide) (by rw [xl128]; rfl) rfl (by decide) rfl) ?_
  refine sy_Fs (sy_goto (pc' := 288) xc128_311 (by decide) (by decide) sy_refl) ?_
  refine sy_Fs (sy_ild xc128_288 rfl rfl sy_refl) ?_
  refine sy_Fs (sy_bipush (v := 80) xc128_290 (by decide) (by decide) sy_refl) ?_
  refine sy_Fs (sy_ge_f xc128_292 (by decide) (by decide) (by decide) sy_refl) ?_
  refine sy_Fs (sy_aldn xc128_295 rfl rfl sy_refl) ?_
  refine sy_Fs (sy_gf xc128_296 xf128_406 rfl (wh_at hw 0 rfl) rfl (fh_at hX0 28 rfl rfl) sy_refl) ?_
  refine sy_Fs (sy_bipush (v := 80) xc128_299 (by decide) (by decide) sy_refl) ?_
  refine sy_Fs (sy_ildn xc128_301 rfl rfl sy_refl) ?_
  refine sy_Fs (sx_imul (z := 80) xc128_302 (by decide)) ?_
  refine sy_Fs (sy_ild xc128_303 rfl rfl sy_refl) ?_
  refine sy_Fs (sx_iadd (z := 130) xc128_305 (by decide)) ?_
  refine sy_Fs (sy_iconst (v := 0) xc128_306 (by decide) sy_refl) ?_
  refine sy_Fw (i := 26) (x := (1, 1, 3200, (fz Fl 51))) hw (by decide) (sy_bas (i := 130) xc128_307 (wh_at hw 26 rfl) rfl (by decide) (by decide) rfl sy_refl) ?_
  intro w hw
  simp only [List.set_cons_zero, List.set_cons_succ] at hw
  refine sy_Fs (sx_iinc (c := 1) (z := 51) (ls' := [(2, pl 0, 0), (0, 1, 0), (0, 1, 0), (0, 1, 0), (0, 51, 0), (0, 24, 0), (0, 0, 0), (255, 0, 0)]) xc128_308 rfl (by decide) (by rw [xl128]; rfl) rfl (by decide) rfl) ?_
  refine sy_Fs (sy_goto (pc' := 288) xc128_311 (by decide) (by decide) sy_refl) ?_
  refine sy_Fs (sy_ild xc128_288 rfl rfl sy_refl) ?_
  refine sy_Fs (sy_bipush (v := 80) xc128_290 (by decide) (by decide) sy_refl) ?_
  refine sy_Fs (sy_ge_f xc128_292 (by decide) (by decide) (by decide) sy_refl) ?_
  refine sy_Fs (sy_aldn xc128_295 rfl rfl sy_refl) ?_
  refine sy_Fs (sy_gf xc128_296 xf128_406 rfl (wh_at hw 0 rfl) rfl (fh_at hX0 28 rfl rfl) sy_refl) ?_
  refine sy_Fs (sy_bipush (v := 80) xc128_299 (by decide) (by decide) sy_refl) ?_
  refine sy_Fs (sy_ildn xc128_301 rfl rfl sy_refl) ?_
  refine sy_Fs (sx_imul (z := 80) xc128_302 (by decide)) ?_
  refine sy_Fs (sy_ild xc128_303 rfl rfl sy_refl) ?_
  refine sy_Fs (sx_iadd (z := 131) xc128_305 (by decide)) ?_
  refine sy_Fs (sy_iconst (v := 0) xc128_306 (by decide) sy_refl) ?_
  refine sy_Fw (i := 26) (x := (1, 1, 3200, (fz Fl 52))) hw (by decide) (sy_bas (i := 131) xc128_307 (wh_at hw 26 rfl) rfl (by decide) (by decide) rfl sy_refl) ?_
  intro w hw
  simp only [List.set_cons_zero, List.set_cons_succ] at hw
  refine sy_Fs (sx_iinc (c := 1) (z := 52) (ls' := [(2, pl 0, 0), (0, 1, 0), (0, 1, 0), (0, 1, 0), (0, 52, 0), (0, 24, 0), (0, 0, 0), (255, 0, 0)]) xc128_308 rfl (by decide) (by rw [xl128]; rfl) rfl (by decide) rfl) ?_
  refine sy_Fs (sy_goto (pc' := 288) xc128_311 (by decide) (by decide) sy_refl) ?_
  refine sy_Fs (sy_ild xc128_288 rfl rfl sy_refl) ?_
  refine sy_Fs (sy_bipush (v := 80) xc128_290 (by decide) (by decide) sy_refl) ?_
  refine sy_Fs (sy_ge_f xc128_292 (by decide) (by decide) (by decide) sy_refl) ?_
  refine sy_Fs (sy_aldn xc128_295 rfl rfl sy_refl) ?_
  refine sy_Fs (sy_gf xc128_296 xf128_406 rfl (wh_at hw 0 rfl) rfl (fh_at hX0 28 rfl rfl) sy_refl) ?_
  refine sy_Fs (sy_bipush (v := 80) xc128_299 (by decide) (by decide) sy_refl) ?_
  refine sy_Fs (sy_ildn xc128_301 rfl rfl sy_refl) ?_
  refine sy_Fs (sx_imul (z := 80) xc128_302 (by decide)) ?_
  refine sy_Fs (sy_ild xc128_303 rfl rfl sy_refl) ?_
  refine sy_Fs (sx_iadd (z := 132) xc128_305 (by decide)) ?_
  refine sy_Fs (sy_iconst (v := 0) xc128_306 (by decide) sy_refl) ?_
  refine sy_Fw (i := 26) (x := (1, 1, 3200, (fz Fl 53))) hw (by decide) (sy_bas (i := 132) xc128_307 (wh_at hw 26 rfl) rfl (by decide) (by decide) rfl sy_refl) ?_
  intro w hw
  simp only [List.set_cons_zero, List.set_cons_succ] at hw
  refine sy_Fs (sx_iinc (c := 1) (z := 53) (ls' := [(2, pl 0, 0), (0, 1, 0), (0, 1, 0), (0, 1, 0), (0, 53, 0), (0, 24, 0), (0, 0, 0), (255, 0, 0)]) xc128_308 rfl (by decide) (by rw [xl128]; rfl) rfl (by decide) rfl) ?_
  refine sy_Fs (sy_goto (pc' := 288) xc128_311 (by decide) (by decide) sy_refl) ?_
  refine sy_Fs (sy_ild xc128_288 rfl rfl sy_refl) ?_
  refine sy_Fs (sy_bipush (v := 80) xc128_290 (by decide) (by decide) sy_refl) ?_
  refine sy_Fs (sy_ge_f xc128_292 (by decide) (by decide) (by decide) sy_refl) ?_
  refine sy_Fs (sy_aldn xc128_295 rfl rfl sy_refl) ?_
  refine sy_Fs (sy_gf xc128_296 xf128_406 rfl (wh_at hw 0 rfl) rfl (fh_at hX0 28 rfl rfl) sy_refl) ?_
  refine sy_Fs (sy_bipush (v := 80) xc128_299 (by decide) (by decide) sy_refl) ?_
  refine sy_Fs (sy_ildn xc128_301 rfl rfl sy_refl) ?_
  refine sy_Fs (sx_imul (z := 80) xc128_302 (by decide)) ?_
  refine sy_Fs (sy_ild xc128_303 rfl rfl sy_refl) ?_
  refine sy_Fs (sx_iadd (z := 133) xc128_305 (by decide)) ?_
  refine sy_Fs (sy_iconst (v := 0) xc128_306 (by decide) sy_refl) ?_
  refine sy_Fw (i := 26) (x := (1, 1, 3200, (fz Fl 54))) hw (by decide) (sy_bas (i := 133) xc128_307 (wh_at hw 26 rfl) rfl (by decide) (by decide) rfl sy_refl) ?_
  intro w hw
  simp only [List.set_cons_zero, List.set_cons_succ] at hw
  refine sy_Fs (sx_iinc (c := 1) (z := 54) (ls' := [(2, pl 0, 0), (0, 1, 0), (0, 1, 0), (0, 1, 0), (0, 54, 0), (0, 24, 0), (0, 0, 0), (255, 0, 0)]) xc128_308 rfl (by decide) (by rw [xl128]; rfl) rfl (by decide) rfl) ?_
  refine sy_Fs (sy_goto (pc' := 288) xc128_311 (by decide) (by decide) sy_refl) ?_
  refine sy_Fs (sy_ild xc128_288 rfl rfl sy_refl) ?_
  refine sy_Fs (sy_bipush (v := 80) xc128_290 (by decide) (by decide) sy_refl) ?_
  refine sy_Fs (sy_ge_f xc128_292 (by decide) (by decide) (by decide) sy_refl) ?_
  refine sy_Fs (sy_aldn xc128_295 rfl rfl sy_refl) ?_
  refine sy_Fs (sy_gf xc128_296 xf128_406 rfl (wh_at hw 0 rfl) rfl (fh_at hX0 28 rfl rfl) sy_refl) ?_
  refine sy_Fs (sy_bipush (v := 80) xc128_299 (by decide) (by decide) sy_refl) ?_
  refine sy_Fs (sy_ildn xc128_301 rfl rfl sy_refl) ?_
  refine sy_Fs (sx_imul (z := 80) xc128_302 (by decide)) ?_
  refine sy_Fs (sy_ild xc128_303 rfl rfl sy_refl) ?_
  refine sy_Fs (sx_iadd (z := 134) xc128_305 (by decide)) ?_
  refine sy_Fs (sy_iconst (v := 0) xc128_306 (by decide) sy_refl) ?_
  refine sy_Fw (i := 26) (x := (1, 1, 3200, (fz Fl 55))) hw (by decide) (sy_bas (i := 134) xc128_307 (wh_at hw 26 rfl) rfl (by decide) (by decide) rfl sy_refl) ?_
  intro w hw
  simp only [List.set_cons_zero, List.set_cons_succ] at hw
  refine sy_Fs (sx_iinc (c := 1) (z := 55) (ls' := [(2, pl 0, 0), (0, 1, 0), (0, 1, 0), (0, 1, 0), (0, 55, 0), (0, 24, 0), (0, 0, 0), (255, 0, 0)]) xc128_308 rfl (by decide) (by rw [xl128]; rfl) rfl (by decide) rfl) ?_
  refine sy_Fs (sy_goto (pc' := 288) xc128_311 (by decide) (by decide) sy_refl) ?_
  refine sy_Fs (sy_ild xc128_288 rfl rfl sy_refl) ?_
  refine sy_Fs (sy_bipush (v := 80) xc128_290 (by decide) (by decide) sy_refl) ?_
  refine sy_Fs (sy_ge_f xc128_292 (by decide) (by decide) (by decide) sy_refl) ?_
  refine sy_Fs (sy_aldn xc128_295 rfl rfl sy_refl) ?_
  refine sy_Fs (sy_gf xc128_296 xf128_406 rfl (wh_at hw 0 rfl) rfl (fh_at hX0 28 rfl rfl) sy_refl) ?_
  refine sy_Fs (sy_bipush (v := 80) xc128_299 (by decide) (by decide) sy_refl) ?_
  refine sy_Fs (sy_ildn xc128_301 rfl rfl sy_refl) ?_
  refine sy_Fs (sx_imul (z := 80) xc128_302 (by decide)) ?_
  refine sy_Fs (sy_ild xc128_303 rfl rfl sy_refl) ?_
  refine sy_Fs (sx_iadd (z := 135) xc128_305 (by decide)) ?_
  refine sy_Fs (sy_iconst (v := 0) xc128_306 (by decide) sy_refl) ?_
  refine sy_Fw (i := 26) (x := (1, 1, 3200, (fz Fl 56))) hw (by decide) (sy_bas (i := 135) xc128_307 (wh_at hw 26 rfl) rfl (by decide) (by decide) rfl sy_refl) ?_
  intro w hw
  simp only [List.set_cons_zero, List.set_cons_succ] at hw
  refine sy_Fs (sx_iinc (c := 1) (z := 56) (ls' := [(2, pl 0, 0), (0, 1, 0), (0, 1, 0), (0, 1, 0), (0, 56, 0), (0, 24, 0), (0, 0, 0), (255, 0, 0)]) xc128_308 rfl (by decide) (by rw [xl128]; rfl) rfl (by decide) rfl) ?_
  refine sy_Fs (sy_goto (pc' := 288) xc128_311 (by decide) (by decide) sy_refl) ?_
  refine sy_Fs (sy_ild xc128_288 rfl rfl sy_refl) ?_
  refine sy_Fs (sy_bipush (v := 80) xc128_290 (by decide) (by decide) sy_refl) ?_
  refine sy_Fs (sy_ge_f xc128_292 (by decide) (by decide) (by decide) sy_refl) ?_
  refine sy_Fs (sy_aldn xc128_295 rfl rfl sy_refl) ?_
  refine sy_Fs (sy_gf xc128_296 xf128_406 rfl (wh_at hw 0 rfl) rfl (fh_at hX0 28 rfl rfl) sy_refl) ?_
  refine sy_Fs (sy_bipush (v := 80) xc128_299 (by decide) (by decide) sy_refl) ?_
  refine sy_Fs (sy_ildn xc128_301 rfl rfl sy_refl) ?_
  refine sy_Fs (sx_imul (z := 80) xc128_302 (by decide)) ?_
  refine sy_Fs (sy_ild xc128_303 rfl rfl sy_refl) ?_
  refine sy_Fs (sx_iadd (z := 136) xc128_305 (by decide)) ?_
  refine sy_Fs (sy_iconst (v := 0) xc128_306 (by decide) sy_refl) ?_
  refine sy_Fw (i := 26) (x := (1, 1, 3200, (fz Fl 57))) hw (by decide) (sy_bas (i := 136) xc128_307 (wh_at hw 26 rfl) rfl (by decide) (by decide) rfl sy_refl) ?_
  intro w hw
  simp only [List.set_cons_zero, List.set_cons_succ] at hw
  refine sy_Fs (sx_iinc (c := 1) (z := 57) (ls' := [(2, pl 0, 0), (0, 1, 0), (0, 1, 0), (0, 1, 0), (0, 57, 0), (0, 24, 0), (0, 0, 0), (255, 0, 0)]) xc128_308 rfl (by decide) (by rw [xl128]; rfl) rfl (by decide) rfl) ?_
  refine sy_Fs (sy_goto (pc' := 288) xc128_311 (by decide) (by decide) sy_refl) ?_
  refine sy_Fs (sy_ild xc128_288 rfl rfl sy_refl) ?_
  refine sy_Fs (sy_bipush (v := 80) xc128_290 (by decide) (by decide) sy_refl) ?_
  refine sy_Fs (sy_ge_f xc128_292 (by decide) (by decide) (by decide) sy_refl) ?_
  refine sy_Fs (sy_aldn xc128_295 rfl rfl sy_refl) ?_
  refine sy_Fs (sy_gf xc128_296 xf128_406 rfl (wh_at hw 0 rfl) rfl (fh_at hX0 28 rfl rfl) sy_refl) ?_
  refine sy_Fs (sy_bipush (v := 80) xc128_299 (by decide) (by decide) sy_refl) ?_
  refine sy_Fs (sy_ildn xc128_301 rfl rfl sy_refl) ?_
  refine sy_Fs (sx_imul (z := 80) xc128_302 (by decide)) ?_
  refine sy_Fs (sy_ild xc128_303 rfl rfl sy_refl) ?_
  refine sy_Fs (sx_iadd (z := 137) xc128_305 (by decide)) ?_
  refine sy_Fs (sy_iconst (v := 0) xc128_306 (by decide) sy_refl) ?_
  refine sy_Fw (i := 26) (x := (1, 1, 3200, (fz Fl 58))) hw (by decide) (sy_bas (i := 137) xc128_307 (wh_at hw 26 rfl) rfl (by decide) (by decide) rfl sy_refl) ?_
  intro w hw
  simp only [List.set_cons_zero, List.set_cons_succ] at hw
  refine sy_Fs (sx_iinc (c := 1) (z := 58) (ls' := [(2, pl 0, 0), (0, 1, 0), (0, 1, 0), (0, 1, 0), (0, 58, 0), (0, 24, 0), (0, 0, 0), (255, 0, 0)]) xc128_308 rfl (by decide) (by rw [xl128]; rfl) rfl (by decide) rfl) ?_
  refine sy_Fs (sy_goto (pc' := 288) xc128_311 (by decide) (by decide) sy_refl) ?_
  refine sy_Fs (sy_ild xc128_288 rfl rfl sy_refl) ?_
  refine sy_Fs (sy_bipush (v := 80) xc128_290 (by decide) (by decide) sy_refl) ?_
  refine sy_Fs (sy_ge_f xc128_292 (by decide) (by decide) (by decide) sy_refl) ?_
  refine sy_Fs (sy_aldn xc128_295 rfl rfl sy_refl) ?_
  refine sy_Fs (sy_gf xc128_296 xf128_406 rfl (wh_at hw 0 rfl) rfl (fh_at hX0 28 rfl rfl) sy_refl) ?_
  refine sy_Fs (sy_bipush (v := 80) xc128_299 (by decide) (by decide) sy_refl) ?_
  refine sy_Fs (sy_ildn xc128_301 rfl rfl sy_refl) ?_
  refine sy_Fs (sx_imul (z := 80) xc128_302 (by decide)) ?_
  refine sy_Fs (sy_ild xc128_303 rfl rfl sy_refl) ?_
  refine sy_Fs (sx_iadd (z := 138) xc128_305 (by decide)) ?_
  refine sy_Fs (sy_iconst (v := 0) xc128_306 (by decide) sy_refl) ?_
  refine sy_Fw (i := 26) (x := (1, 1, 3200, (fz Fl 59))) hw (by decide) (sy_bas (i := 138) xc128_307 (wh_at hw 26 rfl) rfl (by decide) (by decide) rfl sy_refl) ?_
  intro w hw
  simp only [List.set_cons_zero, List.set_cons_succ] at hw
  refine sy_Fs (sx_iinc (c := 1) (z := 59) (ls' := [(2, pl 0, 0), (0, 1, 0), (0, 1, 0), (0, 1, 0), (0, 59, 0), (0, 24, 0), (0, 0, 0), (255, 0, 0)]) xc128_308 rfl (by decide) (by rw [xl128]; rfl) rfl (by decide) rfl) ?_
  refine sy_Fs (sy_goto (pc' := 288) xc128_311 (by decide) (by decide) sy_refl) ?_
  refine sy_Fs (sy_ild xc128_288 rfl rfl sy_refl) ?_
  refine sy_Fs (sy_bipush (v := 80) xc128_290 (by decide) (by decide) sy_refl) ?_
  refine sy_Fs (sy_ge_f xc128_292 (by decide) (by decide) (by decide) sy_refl) ?_
  refine sy_Fs (sy_aldn xc128_295 rfl rfl sy_refl) ?_
  refine sy_Fs (sy_gf xc128_296 xf128_406 rfl (wh_at hw 0 rfl) rfl (fh_at hX0 28 rfl rfl) sy_refl) ?_
  refine sy_Fs (sy_bipush (v := 80) xc128_299 (by decide) (by decide) sy_refl) ?_
  refine sy_Fs (sy_ildn xc128_301 rfl rfl sy_refl) ?_
  refine sy_Fs (sx_imul (z := 80) xc128_302 (by decide)) ?_
  refine sy_Fs (sy_ild xc128_303 rfl rfl sy_refl) ?_
  refine sy_Fs (sx_iadd (z := 139) xc128_305 (by decide)) ?_
  refine sy_Fs (sy_iconst (v := 0) xc128_306 (by decide) sy_refl) ?_
  refine sy_Fw (i := 26) (x := (1, 1, 3200, (fz Fl 60))) hw (by decide) (sy_bas (i := 139) xc128_307 (wh_at hw 26 rfl) rfl (by decide) (by decide) rfl sy_refl) ?_
  intro w hw
  simp only [List.set_cons_zero, List.set_cons_succ] at hw
  refine sy_Fs (sx_iinc (c := 1) (z := 60) (ls' := [(2, pl 0, 0), (0, 1, 0), (0, 1, 0), (0, 1, 0), (0, 60, 0), (0, 24, 0), (0, 0, 0), (255, 0, 0)]) xc128_308 rfl (by decide) (by rw [xl128]; rfl) rfl (by decide) rfl) ?_
  refine sy_Fs (sy_goto (pc' := 288) xc128_311 (by decide) (by decide) sy_refl) ?_
  refine sy_Fs (sy_ild xc128_288 rfl rfl sy_refl) ?_
  refine sy_Fs (sy_bipush (v := 80) xc128_290 (by decide) (by decide) sy_refl) ?_
  refine sy_Fs (sy_ge_f xc128_292 (by decide) (by decide) (by decide) sy_refl) ?_
  refine sy_Fs (sy_aldn xc128_295 rfl rfl sy_refl) ?_
  refine sy_Fs (sy_gf xc128_296 xf128_406 rfl (wh_at hw 0 rfl) rfl (fh_at hX0 28 rfl rfl) sy_refl) ?_
  refine sy_Fs (sy_bipush (v := 80) xc128_299 (by decide) (by decide) sy_refl) ?_
  refine sy_Fs (sy_ildn xc128_301 rfl rfl sy_refl) ?_
  refine sy_Fs (sx_imul (z := 80) xc128_302 (by decide)) ?_
  refine sy_Fs (sy_ild xc128_303 rfl rfl sy_refl) ?_
  refine sy_Fs (sx_iadd (z := 140) xc128_305 (by decide)) ?_
  refine sy_Fs (sy_iconst (v := 0) xc128_306 (by decide) sy_refl) ?_
  refine sy_Fw (i := 26) (x := (1, 1, 3200, (fz Fl 61))) hw (by decide) (sy_bas (i := 140) xc128_307 (wh_at hw 26 rfl) rfl (by decide) (by decide) rfl sy_refl) ?_
  intro w hw
  simp only [List.set_cons_zero, List.set_cons_succ] at hw
  refine sy_Fs (sx_iinc (c := 1) (z := 61) (ls' := [(2, pl 0, 0), (0, 1, 0), (0, 1, 0), (0, 1, 0), (0, 61, 0), (0, 24, 0), (0, 0, 0), (255, 0, 0)]) xc128_308 rfl (by decide) (by rw [xl128]; rfl) rfl (by decide) rfl) ?_
  refine sy_Fs (sy_goto (pc' := 288) xc128_311 (by decide) (by decide) sy_refl) ?_
  refine sy_Fs (sy_ild xc128_288 rfl rfl sy_refl) ?_
  refine sy_Fs (sy_bipush (v := 80) xc128_290 (by decide) (by decide) sy_refl) ?_
  refine sy_Fs (sy_ge_f xc128_292 (by decide) (by decide) (by decide) sy_refl) ?_
  refine sy_Fs (sy_aldn xc128_295 rfl rfl sy_refl) ?_
  refine sy_Fs (sy_gf xc128_296 xf128_406 rfl (wh_at hw 0 rfl) rfl (fh_at hX0 28 rfl rfl) sy_refl) ?_
  refine sy_Fs (sy_bipush (v := 80) xc128_299 (by decide) (by decide) sy_refl) ?_
  refine sy_Fs (sy_ildn xc128_301 rfl rfl sy_refl) ?_
  refine sy_Fs (sx_imul (z := 80) xc128_302 (by decide)) ?_
  refine sy_Fs (sy_ild xc128_303 rfl rfl sy_refl) ?_
  refine sy_Fs (sx_iadd (z := 141) xc128_305 (by decide)) ?_
  refine sy_Fs (sy_iconst (v := 0) xc128_306 (by decide) sy_refl) ?_
  refine sy_Fw (i := 26) (x := (1, 1, 3200, (fz Fl 62))) hw (by decide) (sy_bas (i := 141) xc128_307 (wh_at hw 26 rfl) rfl (by decide) (by decide) rfl sy_refl) ?_
  intro w hw
  simp only [List.set_cons_zero, List.set_cons_succ] at hw
  refine sy_Fs (sx_iinc (c := 1) (z := 62) (ls' := [(2, pl 0, 0), (0, 1, 0), (0, 1, 0), (0, 1, 0), (0, 62, 0), (0, 24, 0), (0, 0, 0), (255, 0, 0)]) xc128_308 rfl (by decide) (by rw [xl128]; rfl) rfl (by decide) rfl) ?_
  refine sy_Fs (sy_goto (pc' := 288) xc128_311 (by decide) (by decide) sy_refl) ?_
  refine sy_Fs (sy_ild xc128_288 rfl rfl sy_refl) ?_
  refine sy_Fs (sy_bipush (v := 80) xc128_290 (by decide) (by decide) sy_refl) ?_
  refine sy_Fs (sy_ge_f xc128_292 (by decide) (by decide) (by decide) sy_refl) ?_
  refine sy_Fs (sy_aldn xc128_295 rfl rfl sy_refl) ?_
  refine sy_Fs (sy_gf xc128_296 xf128_406 rfl (wh_at hw 0 rfl) rfl (fh_at hX0 28 rfl rfl) sy_refl) ?_
  refine sy_Fs (sy_bipush (v := 80) xc128_299 (by decide) (by decide) sy_refl) ?_
  refine sy_Fs (sy_ildn xc128_301 rfl rfl sy_refl) ?_
  refine sy_Fs (sx_imul (z := 80) xc128_302 (by decide)) ?_
  refine sy_Fs (sy_ild xc128_303 rfl rfl sy_refl) ?_
  refine sy_Fs (sx_iadd (z := 142) xc128_305 (by decide)) ?_
  refine sy_Fs (sy_iconst (v := 0) xc128_306 (by decide) sy_refl) ?_
  refine sy_Fw (i := 26) (x := (1, 1, 3200, (fz Fl 63))) hw (by decide) (sy_bas (i := 142) xc128_307 (wh_at hw 26 rfl) rfl (by decide) (by decide) rfl sy_refl) ?_
  intro w hw
  simp only [List.set_cons_zero, List.set_cons_succ] at hw
  refine sy_Fs (sx_iinc (c := 1) (z := 63) (ls' := [(2, pl 0, 0), (0, 1, 0), (0, 1, 0), (0, 1, 0), (0, 63, 0), (0, 24, 0), (0, 0, 0), (255, 0, 0)]) xc128_308 rfl (by decide) (by rw [xl128]; rfl) rfl (by decide) rfl) ?_
  refine sy_Fs (sy_goto (pc' := 288) xc128_311 (by decide) (by decide) sy_refl) ?_
  refine sy_Fs (sy_ild xc128_288 rfl rfl sy_refl) ?_
  refine sy_Fs (sy_bipush (v := 80) xc128_290 (by decide) (by decide) sy_refl) ?_
  refine sy_Fs (sy_ge_f xc128_292 (by decide) (by decide) (by decide) sy_refl) ?_
  refine sy_Fs (sy_aldn xc128_295 rfl rfl sy_refl) ?_
  refine sy_Fs (sy_gf xc128_296 xf128_406 rfl (wh_at hw 0 rfl) rfl (fh_at hX0 28 rfl rfl) sy_refl) ?_
  refine sy_Fs (sy_bipush (v := 80) xc128_299 (by decide) (by decide) sy_refl) ?_
  refine sy_Fs (sy_ildn xc128_301 rfl rfl sy_refl) ?_
  refine sy_Fs (sx_imul (z := 80) xc128_302 (by decide)) ?_
  refine sy_Fs (sy_ild xc128_303 rfl rfl sy_refl) ?_
  refine sy_Fs (sx_iadd (z := 143) xc128_305 (by decide)) ?_
  refine sy_Fs (sy_iconst (v := 0) xc128_306 (by decide) sy_refl) ?_
  refine sy_Fw (i := 26) (x := (1, 1, 3200, (fz Fl 64))) hw (by decide) (sy_bas (i := 143) xc128_307 (wh_at hw 26 rfl) rfl (by decide) (by decide) rfl sy_refl) ?_
  intro w hw
  simp only [List.set_cons_zero, List.set_cons_succ] at hw
  refine sy_Fs (sx_iinc (c := 1) (z := 64) (ls' := [(2, pl 0, 0), (0, 1, 0), (0, 1, 0), (0, 1, 0), (0, 64, 0), (0, 24, 0), (0, 0, 0), (255, 0, 0)]) xc128_308 rfl (by decide) (by rw [xl128]; rfl) rfl (by decide) rfl) ?_
  refine sy_Fs (sy_goto (pc' := 288) xc128_311 (by decide) (by decide) sy_refl) ?_
  refine sy_Fs (sy_ild xc128_288 rfl rfl sy_refl) ?_
  refine sy_Fs (sy_bipush (v := 80) xc128_290 (by decide) (by decide) sy_refl) ?_
  refine sy_Fs (sy_ge_f xc128_292 (by decide) (by decide) (by decide) sy_refl) ?_
  refine sy_Fs (sy_aldn xc128_295 rfl rfl sy_refl) ?_
  refine sy_Fs (sy_gf xc128_296 xf128_406 rfl (wh_at hw 0 rfl) rfl (fh_at hX0 28 rfl rfl) sy_refl) ?_
  refine sy_Fs (sy_bipush (v := 80) xc128_299 (by decide) (by decide) sy_refl) ?_
  refine sy_Fs (sy_ildn xc128_301 rfl rfl sy_refl) ?_
  refine sy_Fs (sx_imul (z := 80) xc128_302 (by decide)) ?_
  refine sy_Fs (sy_ild xc128_303 rfl rfl sy_refl) ?_
  refine sy_Fs (sx_iadd (z := 144) xc128_305 (by decide)) ?_
  refine sy_Fs (sy_iconst (v := 0) xc128_306 (by decide) sy_refl) ?_
  refine sy_Fw (i := 26) (x := (1, 1, 3200, (fz Fl 65))) hw (by decide) (sy_bas (i := 144) xc128_307 (wh_at hw 26 rfl) rfl (by decide) (by decide) rfl sy_refl) ?_
  intro w hw
  simp only [List.set_cons_zero, List.set_cons_succ] at hw
  refine sy_Fs (sx_iinc (c := 1) (z := 65) (ls' := [(2, pl 0, 0), (0, 1, 0), (0, 1, 0), (0, 1, 0), (0, 65, 0), (0, 24, 0), (0, 0, 0), (255, 0, 0)]) xc128_308 rfl (by decide) (by rw [xl128]; rfl) rfl (by decide) rfl) ?_
  refine sy_Fs (sy_goto (pc' := 288) xc128_311 (by decide) (by decide) sy_refl) ?_
  refine sy_Fs (sy_ild xc128_288 rfl rfl sy_refl) ?_
  refine sy_Fs (sy_bipush (v := 80) xc128_290 (by decide) (by decide) sy_refl) ?_
  refine sy_Fs (sy_ge_f xc128_292 (by decide) (by decide) (by decide) sy_refl) ?_
  refine sy_Fs (sy_aldn xc128_295 rfl rfl sy_refl) ?_
  refine sy_Fs (sy_gf xc128_296 xf128_406 rfl (wh_at hw 0 rfl) rfl (fh_at hX0 28 rfl rfl) sy_refl) ?_
  refine sy_Fs (sy_bipush (v := 80) xc128_299 (by decide) (by decide) sy_refl) ?_
  refine sy_Fs (sy_ildn xc128_301 rfl rfl sy_refl) ?_
  refine sy_Fs (sx_imul (z := 80) xc128_302 (by decide)) ?_
  refine sy_Fs (sy_ild xc128_303 rfl rfl sy_refl) ?_
  refine sy_Fs (sx_iadd (z := 145) xc128_305 (by decide)) ?_
  refine sy_Fs (sy_iconst (v := 0) xc128_306 (by decide) sy_refl) ?_
  refine sy_Fw (i := 26) (x := (1, 1, 3200, (fz Fl 66))) hw (by decide) (sy_bas (i := 145) xc128_307 (wh_at hw 26 rfl) rfl (by decide) (by decide) rfl sy_refl) ?_
  intro w hw
  simp only [List.set_cons_zero, List.set_cons_succ] at hw
  refine sy_Fs (sx_iinc (c := 1) (z := 66) (ls' := [(2, pl 0, 0), (0, 1, 0), (0, 1, 0), (0, 1, 0), (0, 66, 0), (0, 24, 0), (0, 0, 0), (255, 0, 0)]) xc128_308 rfl (by decide) (by rw [xl128]; rfl) rfl (by decide) rfl) ?_
  refine sy_Fs (sy_goto (pc' := 288) xc128_311 (by decide) (by decide) sy_refl) ?_
  refine sy_Fs (sy_ild xc128_288 rfl rfl sy_refl) ?_
  refine sy_Fs (sy_bipush (v := 80) xc128_290 (by decide) (by decide) sy_refl) ?_
  refine sy_Fs (sy_ge_f xc128_292 (by decide) (by decide) (by decide) sy_refl) ?_
  refine sy_Fs (sy_aldn xc128_295 rfl rfl sy_refl) ?_
  refine sy_Fs (sy_gf xc128_296 xf128_406 rfl (wh_at hw 0 rfl) rfl (fh_at hX0 28 rfl rfl) sy_refl) ?_
  refine sy_Fs (sy_bipush (v := 80) xc128_299 (by decide) (by decide) sy_refl) ?_
  refine sy_Fs (sy_ildn xc128_301 rfl rfl sy_refl) ?_
  refine sy_Fs (sx_imul (z := 80) xc128_302 (by decide)) ?_
  refine sy_Fs (sy_ild xc128_303 rfl rfl sy_refl) ?_
  refine sy_Fs (sx_iadd (z := 146) xc128_305 (by decide)) ?_
  refine sy_Fs (sy_iconst (v := 0) xc128_306 (by decide) sy_refl) ?_
  refine sy_Fw (i := 26) (x := (1, 1, 3200, (fz Fl 67))) hw (by decide) (sy_bas (i := 146) xc128_307 (wh_at hw 26 rfl) rfl (by decide) (by decide) rfl sy_refl) ?_
  intro w hw
  simp only [List.set_cons_zero, List.set_cons_succ] at hw
  refine sy_Fs (sx_iinc (c := 1) (z := 67) (ls' := [(2, pl 0, 0), (0, 1, 0), (0, 1, 0), (0, 1, 0), (0, 67, 0), (0, 24, 0), (0, 0, 0), (255, 0, 0)]) xc128_308 rfl (by decide) (by rw [xl128]; rfl) rfl (by decide) rfl) ?_
  refine sy_Fs (sy_goto (pc' := 288) xc128_311 (by decide) (by decide) sy_refl) ?_
  refine sy_Fs (sy_ild xc128_288 rfl rfl sy_refl) ?_
  refine sy_Fs (sy_bipush (v := 80) xc128_290 (by decide) (by decide) sy_refl) ?_
  refine sy_Fs (sy_ge_f xc128_292 (by decide) (by decide) (by decide) sy_refl) ?_
  refine sy_Fs (sy_aldn xc128_295 rfl rfl sy_refl) ?_
  refine sy_Fs (sy_gf xc128_296 xf128_406 rfl (wh_at hw 0 rfl) rfl (fh_at hX0 28 rfl rfl) sy_refl) ?_
  refine sy_Fs (sy_bipush (v := 80) xc128_299 (by decide) (by decide) sy_refl) ?_
  refine sy_Fs (sy_ildn xc128_301 rfl rfl sy_refl) ?_
  refine sy_Fs (sx_imul (z := 80) xc128_302 (by decide)) ?_
  refine sy_Fs (sy_ild xc128_303 rfl rfl sy_refl) ?_
  refine sy_Fs (sx_iadd (z := 147) xc128_305 (by decide)) ?_
  refine sy_Fs (sy_iconst (v := 0) xc128_306 (by decide) sy_refl) ?_
  refine sy_Fw (i := 26) (x := (1, 1, 3200, (fz Fl 68))) hw (by decide) (sy_bas (i := 147) xc128_307 (wh_at hw 26 rfl) rfl (by decide) (by decide) rfl sy_refl) ?_
  intro w hw
  simp only [List.set_cons_zero, List.set_cons_succ] at hw
  refine sy_Fs (sx_iinc (c := 1) (z := 68) (ls' := [(2, pl 0, 0), (0, 1, 0), (0, 1, 0), (0, 1, 0), (0, 68, 0), (0, 24, 0), (0, 0, 0), (255, 0, 0)]) xc128_308 rfl (by decide) (by rw [xl128]; rfl) rfl (by decide) rfl) ?_
  refine sy_Fs (sy_goto (pc' := 288) xc128_311 (by decide) (by decide) sy_refl) ?_
  refine sy_Fs (sy_ild xc128_288 rfl rfl sy_refl) ?_
  refine sy_Fs (sy_bipush (v := 80) xc128_290 (by decide) (by decide) sy_refl) ?_
  refine sy_Fs (sy_ge_f xc128_292 (by decide) (by decide) (by decide) sy_refl) ?_
  refine sy_Fs (sy_aldn xc128_295 rfl rfl sy_refl) ?_
  refine sy_Fs (sy_gf xc128_296 xf128_406 rfl (wh_at hw 0 rfl) rfl (fh_at hX0 28 rfl rfl) sy_refl) ?_
  refine sy_Fs (sy_bipush (v := 80) xc128_299 (by decide) (by decide) sy_refl) ?_
  refine sy_Fs (sy_ildn xc128_301 rfl rfl sy_refl) ?_
  refine sy_Fs (sx_imul (z := 80) xc128_302 (by decide)) ?_
  refine sy_Fs (sy_ild xc128_303 rfl rfl sy_refl) ?_
  refine sy_Fs (sx_iadd (z := 148) xc128_305 (by decide)) ?_
  refine sy_Fs (sy_iconst (v := 0) xc128_306 (by decide) sy_refl) ?_
  refine sy_Fw (i := 26) (x := (1, 1, 3200, (fz Fl 69))) hw (by decide) (sy_bas (i := 148) xc128_307 (wh_at hw 26 rfl) rfl (by decide) (by decide) rfl sy_refl) ?_
  intro w hw
  simp only [List.set_cons_zero, List.set_cons_succ] at hw
  refine sy_Fs (sx_iinc (c := 1) (z := 69) (ls' := [(2, pl 0, 0), (0, 1, 0), (0, 1, 0), (0, 1, 0), (0, 69, 0), (0, 24, 0), (0, 0, 0), (255, 0, 0)]) xc128_308 rfl (by decide) (by rw [xl128]; rfl) rfl (by decide) rfl) ?_
  refine sy_Fs (sy_goto (pc' := 288) xc128_311 (by decide) (by decide) sy_refl) ?_
  refine sy_Fs (sy_ild xc128_288 rfl rfl sy_refl) ?_
  refine sy_Fs (sy_bipush (v := 80) xc128_290 (by decide) (by decide) sy_refl) ?_
  refine sy_Fs (sy_ge_f xc128_292 (by decide) (by decide) (by decide) sy_refl) ?_
  refine sy_Fs (sy_aldn xc128_295 rfl rfl sy_refl) ?_
  refine sy_Fs (sy_gf xc128_296 xf128_406 rfl (wh_at hw 0 rfl) rfl (fh_at hX0 28 rfl rfl) sy_refl) ?_
  refine sy_Fs (sy_bipush (v := 80) xc128_299 (by decide) (by decide) sy_refl) ?_
  refine sy_Fs (sy_ildn xc128_301 rfl rfl sy_refl) ?_
  refine sy_Fs (sx_imul (z := 80) xc128_302 (by decide)) ?_
  refine sy_Fs (sy_ild xc128_303 rfl rfl sy_refl) ?_
  refine sy_Fs (sx_iadd (z := 149) xc128_305 (by decide)) ?_
  refine sy_Fs (sy_iconst (v := 0) xc128_306 (by decide) sy_refl) ?_
  refine sy_Fw (i := 26) (x := (1, 1, 3200, (fz Fl 70))) hw (by decide) (sy_bas (i := 149) xc128_307 (wh_at hw 26 rfl) rfl (by decide) (by decide) rfl sy_refl) ?_
  intro w hw
  simp only [List.set_cons_zero, List.set_cons_succ] at hw
  refine sy_Fs (sx_iinc (c := 1) (z := 70) (ls' := [(2, pl 0, 0), (0, 1, 0), (0, 1, 0), (0, 1, 0), (0, 70, 0), (0, 24, 0), (0, 0, 0), (255, 0, 0)]) xc128_308 rfl (by decide) (by rw [xl128]; rfl) rfl (by decide) rfl) ?_
  refine sy_Fs (sy_goto (pc' := 288) xc128_311 (by decide) (by decide) sy_refl) ?_
  refine sy_Fs (sy_ild xc128_288 rfl rfl sy_refl) ?_
  refine sy_Fs (sy_bipush (v := 80) xc128_290 (by decide) (by decide) sy_refl) ?_
  refine sy_Fs (sy_ge_f xc128_292 (by decide) (by decide) (by decide) sy_refl) ?_
  refine sy_Fs (sy_aldn xc128_295 rfl rfl sy_refl) ?_
  refine sy_Fs (sy_gf xc128_296 xf128_406 rfl (wh_at hw 0 rfl) rfl (fh_at hX0 28 rfl rfl) sy_refl) ?_
  refine sy_Fs (sy_bipush (v := 80) xc128_299 (by decide) (by decide) sy_refl) ?_
  refine sy_Fs (sy_ildn xc128_301 rfl rfl sy_refl) ?_
  refine sy_Fs (sx_imul (z := 80) xc128_302 (by decide)) ?_
  refine sy_Fs (sy_ild xc128_303 rfl rfl sy_refl) ?_
  refine sy_Fs (sx_iadd (z := 150) xc128_305 (by decide)) ?_
  refine sy_Fs (sy_iconst (v := 0) xc128_306 (by decide) sy_refl) ?_
  refine sy_Fw (i := 26) (x := (1, 1, 3200, (fz Fl 71))) hw (by decide) (sy_bas (i := 150) xc128_307 (wh_at hw 26 rfl) rfl (by decide) (by decide) rfl sy_refl) ?_
  intro w hw
  simp only [List.set_cons_zero, List.set_cons_succ] at hw
  refine sy_Fs (sx_iinc (c := 1) (z := 71) (ls' := [(2, pl 0, 0), (0, 1, 0), (0, 1, 0), (0, 1, 0), (0, 71, 0), (0, 24, 0), (0, 0, 0), (255, 0, 0)]) xc128_308 rfl (by decide) (by rw [xl128]; rfl) rfl (by decide) rfl) ?_
  refine sy_Fs (sy_goto (pc' := 288) xc128_311 (by decide) (by decide) sy_refl) ?_
  refine sy_Fs (sy_ild xc128_288 rfl rfl sy_refl) ?_
  refine sy_Fs (sy_bipush (v := 80) xc128_290 (by decide) (by decide) sy_refl) ?_
  refine sy_Fs (sy_ge_f xc128_292 (by decide) (by decide) (by decide) sy_refl) ?_
  refine sy_Fs (sy_aldn xc128_295 rfl rfl sy_refl) ?_
  refine sy_Fs (sy_gf xc128_296 xf128_406 rfl (wh_at hw 0 rfl) rfl (fh_at hX0 28 rfl rfl) sy_refl) ?_
  refine sy_Fs (sy_bipush (v := 80) xc128_299 (by decide) (by decide) sy_refl) ?_
  refine sy_Fs (sy_ildn xc128_301 rfl rfl sy_refl) ?_
  refine sy_Fs (sx_imul (z := 80) xc128_302 (by decide)) ?_
  refine sy_Fs (sy_ild xc128_303 rfl rfl sy_refl) ?_
  refine sy_Fs (sx_iadd (z := 151) xc128_305 (by decide)) ?_
  refine sy_Fs (sy_iconst (v := 0) xc128_306 (by decide) sy_refl) ?_
  refine sy_Fw (i := 26) (x := (1, 1, 3200, (fz Fl 72))) hw (by decide) (sy_bas (i := 151) xc128_307 (wh_at hw 26 rfl) rfl (by decide) (by decide) rfl sy_refl) ?_
  intro w hw
  simp only [List.set_cons_zero, List.set_cons_succ] at hw
  refine sy_Fs (sx_iinc (c := 1) (z := 72) (ls' := [(2, pl 0, 0), (0, 1, 0), (0, 1, 0), (0, 1, 0), (0, 72, 0), (0, 24, 0), (0, 0, 0), (255, 0, 0)]) xc128_308 rfl (by decide) (by rw [xl128]; rfl) rfl (by decide) rfl) ?_
  refine sy_Fs (sy_goto (pc' := 288) xc128_311 (by decide) (by decide) sy_refl) ?_
  refine sy_Fs (sy_ild xc128_288 rfl rfl sy_refl) ?_
  refine sy_Fs (sy_bipush (v := 80) xc128_290 (by decide) (by decide) sy_refl) ?_
  refine sy_Fs (sy_ge_f xc128_292 (by decide) (by decide) (by decide) sy_refl) ?_
  refine sy_Fs (sy_aldn xc128_295 rfl rfl sy_refl) ?_
  refine sy_Fs (sy_gf xc128_296 xf128_406 rfl (wh_at hw 0 rfl) rfl (fh_at hX0 28 rfl rfl) sy_refl) ?_
  refine sy_Fs (sy_bipush (v := 80) xc128_299 (by decide) (by decide) sy_refl) ?_
  refine sy_Fs (sy_ildn xc128_301 rfl rfl sy_refl) ?_
  refine sy_Fs (sx_imul (z := 80) xc128_302 (by decide)) ?_
  refine sy_Fs (sy_ild xc128_303 rfl rfl sy_refl) ?_
  refine sy_Fs (sx_iadd (z := 152) xc128_305 (by decide)) ?_
  refine sy_Fs (sy_iconst (v := 0) xc128_306 (by decide) sy_refl) ?_
  refine sy_Fw (i := 26) (x := (1, 1, 3200, (fz Fl 73))) hw (by decide) (sy_bas (i := 152) xc128_307 (wh_at hw 26 rfl) rfl (by decide) (by decide) rfl sy_refl) ?_
  intro w hw
  simp only [List.set_cons_zero, List.set_cons_succ] at hw
  refine sy_Fs (sx_iinc (c := 1) (z := 73) (ls' := [(2, pl 0, 0), (0, 1, 0), (0, 1, 0), (0, 1, 0), (0, 73, 0), (0, 24, 0), (0, 0, 0), (255, 0, 0)]) xc128_308 rfl (by decide) (by rw [xl128]; rfl) rfl (by decide) rfl) ?_
  refine sy_Fs (sy_goto (pc' := 288) xc128_311 (by decide) (by decide) sy_refl) ?_
  refine sy_Fs (sy_ild xc128_288 rfl rfl sy_refl) ?_
  refine sy_Fs (sy_bipush (v := 80) xc128_290 (by decide) (by decide) sy_refl) ?_
  refine sy_Fs (sy_ge_f xc128_292 (by decide) (by decide) (by decide) sy_refl) ?_
  refine sy_Fs (sy_aldn xc128_295 rfl rfl sy_refl) ?_
  refine sy_Fs (sy_gf xc128_296 xf128_406 rfl (wh_at hw 0 rfl) rfl (fh_at hX0 28 rfl rfl) sy_refl) ?_
  refine sy_Fs (sy_bipush (v := 80) xc128_299 (by decide) (by decide) sy_refl) ?_
  refine sy_Fs (sy_ildn xc128_301 rfl rfl sy_refl) ?_
  refine sy_Fs (sx_imul (z := 80) xc128_302 (by decide)) ?_
  refine sy_Fs (sy_ild xc128_303 rfl rfl sy_refl) ?_
  refine sy_Fs (sx_iadd (z := 153) xc128_305 (by decide)) ?_
  refine sy_Fs (sy_iconst (v := 0) xc128_306 (by decide) sy_refl) ?_
  refine sy_Fw (i := 26) (x := (1, 1, 3200, (fz Fl 74))) hw (by decide) (sy_bas (i := 153) xc128_307 (wh_at hw 26 rfl) rfl (by decide) (by decide) rfl sy_refl) ?_
  intro w hw
  simp only [List.set_cons_zero, List.set_cons_succ] at hw
  refine sy_Fs (sx_iinc (c := 1) (z := 74) (ls' := [(2, pl 0, 0), (0, 1, 0), (0, 1, 0), (0, 1, 0), (0, 74, 0), (0, 24, 0), (0, 0, 0), (255, 0, 0)]) xc128_308 rfl (by decide) (by rw [xl128]; rfl) rfl (by decide) rfl) ?_
  refine sy_Fs (sy_goto (pc' := 288) xc128_311 (by decide) (by decide) sy_refl) ?_
  refine sy_Fs (sy_ild xc128_288 rfl rfl sy_refl) ?_
  refine sy_Fs (sy_bipush (v := 80) xc128_290 (by decide) (by decide) sy_refl) ?_
  refine sy_Fs (sy_ge_f xc128_292 (by decide) (by decide) (by decide) sy_refl) ?_
  refine sy_Fs (sy_aldn xc128_295 rfl rfl sy_refl) ?_
  refine sy_Fs (sy_gf xc128_296 xf128_406 rfl (wh_at hw 0 rfl) rfl (fh_at hX0 28 rfl rfl) sy_refl) ?_
  refine sy_Fs (sy_bipush (v := 80) xc128_299 (by decide) (by decide) sy_refl) ?_
  refine sy_Fs (sy_ildn xc128_301 rfl rfl sy_refl) ?_
  refine sy_Fs (sx_imul (z := 80) xc128_302 (by decide)) ?_
  refine sy_Fs (sy_ild xc128_303 rfl rfl sy_refl) ?_
  refine sy_Fs (sx_iadd (z := 154) xc128_305 (by decide)) ?_
  refine sy_Fs (sy_iconst (v := 0) xc128_306 (by decide) sy_refl) ?_
  refine sy_Fw (i := 26) (x := (1, 1, 3200, (fz Fl 75))) hw (by decide) (sy_bas (i := 154) xc128_307 (wh_at hw 26 rfl) rfl (by decide) (by decide) rfl sy_refl) ?_
  intro w hw
  simp only [List.set_cons_zero, List.set_cons_succ] at hw
  refine sy_Fs (sx_iinc (c := 1) (z := 75) (ls' := [(2, pl 0, 0), (0, 1, 0), (0, 1, 0), (0, 1, 0), (0, 75, 0), (0, 24, 0), (0, 0, 0), (255, 0, 0)]) xc128_308 rfl (by decide) (by rw [xl128]; rfl) rfl (by decide) rfl) ?_
  refine sy_Fs (sy_goto (pc' := 288) xc128_311 (by decide) (by decide) sy_refl) ?_
  refine sy_Fs (sy_ild xc128_288 rfl rfl sy_refl) ?_
  refine sy_Fs (sy_bipush (v := 80) xc128_290 (by decide) (by decide) sy_refl) ?_
  refine sy_Fs (sy_ge_f xc128_292 (by decide) (by decide) (by decide) sy_refl) ?_
  refine sy_Fs (sy_aldn xc128_295 rfl rfl sy_refl) ?_
  refine sy_Fs (sy_gf xc128_296 xf128_406 rfl (wh_at hw 0 rfl) rfl (fh_at hX0 28 rfl rfl) sy_refl) ?_
  refine sy_Fs (sy_bipush (v := 80) xc128_299 (by decide) (by decide) sy_refl) ?_
  refine sy_Fs (sy_ildn xc128_301 rfl rfl sy_refl) ?_
  refine sy_Fs (sx_imul (z := 80) xc128_302 (by decide)) ?_
  refine sy_Fs (sy_ild xc128_303 rfl rfl sy_refl) ?_
  refine sy_Fs (sx_iadd (z := 155) xc128_305 (by decide)) ?_
  refine sy_Fs (sy_iconst (v := 0) xc128_306 (by decide) sy_refl) ?_
  refine sy_Fw (i := 26) (x := (1, 1, 3200, (fz Fl 76))) hw (by decide) (sy_bas (i := 155) xc128_307 (wh_at hw 26 rfl) rfl (by decide) (by decide) rfl sy_refl) ?_
  intro w hw
  simp only [List.set_cons_zero, List.set_cons_succ] at hw
  refine sy_Fs (sx_iinc (c := 1) (z := 76) (ls' := [(2, pl 0, 0), (0, 1, 0), (0, 1, 0), (0, 1, 0), (0, 76, 0), (0, 24, 0), (0, 0, 0), (255, 0, 0)]) xc128_308 rfl (by decide) (by rw [xl128]; rfl) rfl (by decide) rfl) ?_
  refine sy_Fs (sy_goto (pc' := 288) xc128_311 (by decide) (by decide) sy_refl) ?_
  refine sy_Fs (sy_ild xc128_288 rfl rfl sy_refl) ?_
  refine sy_Fs (sy_bipush (v := 80) xc128_290 (by decide) (by decide) sy_refl) ?_
  refine sy_Fs (sy_ge_f xc128_292 (by decide) (by decide) (by decide) sy_refl) ?_
  refine sy_Fs (sy_aldn xc128_295 rfl rfl sy_refl) ?_
  refine sy_Fs (sy_gf xc128_296 xf128_406 rfl (wh_at hw 0 rfl) rfl (fh_at hX0 28 rfl rfl) sy_refl) ?_
  refine sy_Fs (sy_bipush (v := 80) xc128_299 (by decide) (by decide) sy_refl) ?_
  refine sy_Fs (sy_ildn xc128_301 rfl rfl sy_refl) ?_
  refine sy_Fs (sx_imul (z := 80) xc128_302 (by decide)) ?_
  refine sy_Fs (sy_ild xc128_303 rfl rfl sy_refl) ?_
  refine sy_Fs (sx_iadd (z := 156) xc128_305 (by decide)) ?_
  refine sy_Fs (sy_iconst (v := 0) xc128_306 (by decide) sy_refl) ?_
  refine sy_Fw (i := 26) (x := (1, 1, 3200, (fz Fl 77))) hw (by decide) (sy_bas (i := 156) xc128_307 (wh_at hw 26 rfl) rfl (by decide) (by decide) rfl sy_refl) ?_
  intro w hw
  simp only [List.set_cons_zero, List.set_cons_succ] at hw
  refine sy_Fs (sx_iinc (c := 1) (z := 77) (ls' := [(2, pl 0, 0), (0, 1, 0), (0, 1, 0), (0, 1, 0), (0, 77, 0), (0, 24, 0), (0, 0, 0), (255, 0, 0)]) xc128_308 rfl (by decide) (by rw [xl128]; rfl) rfl (by decide) rfl) ?_
  refine sy_Fs (sy_goto (pc' := 288) xc128_311 (by decide) (by decide) sy_refl) ?_
  refine sy_Fs (sy_ild xc128_288 rfl rfl sy_refl) ?_
  refine sy_Fs (sy_bipush (v := 80) xc128_290 (by decide) (by decide) sy_refl) ?_
  refine sy_Fs (sy_ge_f xc128_292 (by decide) (by decide) (by decide) sy_refl) ?_
  refine sy_Fs (sy_aldn xc128_295 rfl rfl sy_refl) ?_
  refine sy_Fs (sy_gf xc128_296 xf128_406 rfl (wh_at hw 0 rfl) rfl (fh_at hX0 28 rfl rfl) sy_refl) ?_
  refine sy_Fs (sy_bipush (v := 80) xc128_299 (by decide) (by decide) sy_refl) ?_
  refine sy_Fs (sy_ildn xc128_301 rfl rfl sy_refl) ?_
  refine sy_Fs (sx_imul (z := 80) xc128_302 (by decide)) ?_
  refine sy_Fs (sy_ild xc128_303 rfl rfl sy_refl) ?_
  refine sy_Fs (sx_iadd (z := 157) xc128_305 (by decide)) ?_
  refine sy_Fs (sy_iconst (v := 0) xc128_306 (by decide) sy_refl) ?_
  refine sy_Fw (i := 26) (x := (1, 1, 3200, (fz Fl 78))) hw (by decide) (sy_bas (i := 157) xc128_307 (wh_at hw 26 rfl) rfl (by decide) (by decide) rfl sy_refl) ?_
  intro w hw
  simp only [List.set_cons_zero, List.set_cons_succ] at hw
  refine sy_Fs (sx_iinc (c := 1) (z := 78) (ls' := [(2, pl 0, 0), (0, 1, 0), (0, 1, 0), (0, 1, 0), (0, 78, 0), (0, 24, 0), (0, 0, 0), (255, 0, 0)]) xc128_308 rfl (by decide) (by rw [xl128]; rfl) rfl (by decide) rfl) ?_
  refine sy_Fs (sy_goto (pc' := 288) xc128_311 (by decide) (by decide) sy_refl) ?_
  refine sy_Fs (sy_ild xc128_288 rfl rfl sy_refl) ?_
  refine sy_Fs (sy_bipush (v := 80) xc128_290 (by decide) (by decide) sy_refl) ?_
  refine sy_Fs (sy_ge_f xc128_292 (by decide) (by decide) (by decide) sy_refl) ?_
  refine sy_Fs (sy_aldn xc128_295 rfl rfl sy_refl) ?_
  refine sy_Fs (sy_gf xc128_296 xf128_406 rfl (wh_at hw 0 rfl) rfl (fh_at hX0 28 rfl rfl) sy_refl) ?_
  refine sy_Fs (sy_bipush (v := 80) xc128_299 (by decide) (by decide) sy_refl) ?_
  refine sy_Fs (sy_ildn xc128_301 rfl rfl sy_refl) ?_
  refine sy_Fs (sx_imul (z := 80) xc128_302 (by decide)) ?_
  refine sy_Fs (sy_ild xc128_303 rfl rfl sy_refl) ?_
  refine sy_Fs (sx_iadd (z := 158) xc128_305 (by decide)) ?_
  refine sy_Fs (sy_iconst (v := 0) xc128_306 (by decide) sy_refl) ?_
  refine sy_Fw (i := 26) (x := (1, 1, 3200, (fz Fl 79))) hw (by decide) (sy_bas (i := 158) xc128_307 (wh_at hw 26 rfl) rfl (by decide) (by decide) rfl sy_refl) ?_
  intro w hw
  simp only [List.set_cons_zero, List.set_cons_succ] at hw
  refine sy_Fs (sx_iinc (c := 1) (z := 79) (ls' := [(2, pl 0, 0), (0, 1, 0), (0, 1, 0), (0, 1, 0), (0, 79, 0), (0, 24, 0), (0, 0, 0), (255, 0, 0)]) xc128_308 rfl (by decide) (by rw [xl128]; rfl) rfl (by decide) rfl) ?_
  refine sy_Fs (sy_goto (pc' := 288) xc128_311 (by decide) (by decide) sy_refl) ?_
  refine sy_Fs (sy_ild xc128_288 rfl rfl sy_refl) ?_
  refine sy_Fs (sy_bipush (v := 80) xc128_290 (by decide) (by decide) sy_refl) ?_
  refine sy_Fs (sy_ge_f xc128_292 (by decide) (by decide) (by decide) sy_refl) ?_
  refine sy_Fs (sy_aldn xc128_295 rfl rfl sy_refl) ?_
  refine sy_Fs (sy_gf xc128_296 xf128_406 rfl (wh_at hw 0 rfl) rfl (fh_at hX0 28 rfl rfl) sy_refl) ?_
  refine sy_Fs (sy_bipush (v := 80) xc128_299 (by decide) (by decide) sy_refl) ?_
  refine sy_Fs (sy_ildn xc128_301 rfl rfl sy_refl) ?_
  refine sy_Fs (sx_imul (z := 80) xc128_302 (by decide)) ?_
  refine sy_Fs (sy_ild xc128_303 rfl rfl sy_refl) ?_
  refine sy_Fs (sx_iadd (z := 159) xc128_305 (by decide)) ?_
  refine sy_Fs (sy_iconst (v := 0) xc128_306 (by decide) sy_refl) ?_
  refine sy_Fw (i := 26) (x := (1, 1, 3200, (fz Fl 80))) hw (by decide) (sy_bas (i := 159) xc128_307 (wh_at hw 26 rfl) rfl (by decide) (by decide) rfl sy_refl) ?_
  intro w hw
  simp only [List.set_cons_zero, List.set_cons_succ] at hw
  refine sy_Fs (sx_iinc (c := 1) (z := 80) (ls' := [(2, pl 0, 0), (0, 1, 0), (0, 1, 0), (0, 1, 0), (0, 80, 0), (0, 24, 0), (0, 0, 0), (255, 0, 0)]) xc128_308 rfl (by decide) (by rw [xl128]; rfl) rfl (by decide) rfl) ?_
  refine sy_Fs (sy_goto (pc' := 288) xc128_311 (by decide) (by decide) sy_refl) ?_
  refine sy_Fs (sy_ild xc128_288 rfl rfl sy_refl) ?_
  refine sy_Fs (sy_bipush (v := 80) xc128_290 (by decide) (by decide) sy_refl) ?_
  refine sy_Fs (sy_ge_t (pc' := 314) xc128_292 (by decide) (by decide) (by decide) (by decide) sy_refl) ?_
  refine sy_Fs (sy_aldn xc128_314 rfl rfl sy_refl) ?_
  refine sy_Fs (sy_gf xc128_315 xf128_406 rfl (wh_at hw 0 rfl) rfl (fh_at hX0 28 rfl rfl) sy_refl) ?_
  refine sy_Fs (sy_bipush (v := 80) xc128_318 (by decide) (by decide) sy_refl) ?_
  refine sy_Fs (sy_ildn xc128_320 rfl rfl sy_refl) ?_
  refine sy_Fs (sx_imul (z := 80) xc128_321 (by decide)) ?_
  refine sy_Fs (sy_ildn xc128_322 rfl rfl sy_refl) ?_
  refine sy_Fs (sx_i2b (z := 4294967297) xc128_323 (by decide)) ?_
  refine sy_Fw (i := 26) (x := (1, 1, 3200, (mv_wr 32 (fz Fl 80) 80 (mn_b 4294967297)))) hw (by decide) (sy_bas (i := 80) xc128_324 (wh_at hw 26 rfl) rfl (by decide) (by decide) rfl sy_refl) ?_
  intro w hw
  simp only [List.set_cons_zero, List.set_cons_succ] at hw
  refine sy_Fs (sy_aldn xc128_325 rfl rfl sy_refl) ?_
  refine sy_Fs (sy_bipush (v := 8) xc128_326 (by decide) (by decide) sy_refl) ?_
  refine sy_Ff (i := 0) (q := 37) (v := (0, 8, 0)) hw hX0 (by decide) (by decide) rfl (sy_ok0 (by first | decide | assumption | omega | exact mo_rd_lt _ _ | exact mo_add_lt _ _ | exact mo_sub_lt _ _ | exact mo_mul_lt _ _ | exact mo_shl_lt _ _ | exact mo_ushr_lt _ _ | exact mo_or_lt (by decide) (mo_and_lt (mo_rd_lt _ _)) | exact mo_or_lt (mo_shl_lt _ _) (mo_and_lt (mo_rd_lt _ _)))) (sy_pfi xc128_328 xf128_619 rfl xt0_61 xn0_61 (wh_at hw 0 rfl) rfl (by first | decide | assumption | omega | exact mo_rd_lt _ _ | exact mo_add_lt _ _ | exact mo_sub_lt _ _ | exact mo_mul_lt _ _ | exact mo_shl_lt _ _ | exact mo_ushr_lt _ _ | exact mo_or_lt (by decide) (mo_and_lt (mo_rd_lt _ _)) | exact mo_or_lt (mo_shl_lt _ _) (mo_and_lt (mo_rd_lt _ _))) rfl sy_refl) ?_
  intro w X0 hw hX0
  simp only [List.set_cons_zero, List.set_cons_succ] at hw hX0
  refine sy_Fs (sy_iconst (v := 0) xc128_331 (by decide) sy_refl) ?_
  refine sy_Fs (sx_ist (j := 4) (ls' := [(2, pl 0, 0), (0, 1, 0), (0, 1, 0), (0, 1, 0), (0, 0, 0), (0, 24, 0), (0, 0, 0), (255, 0, 0)]) xc128_332 rfl (sy_ok0 (by first | decide | assumption | omega | exact mo_rd_lt _ _ | exact mo_add_lt _ _ | exact mo_sub_lt _ _ | exact mo_mul_lt _ _ | exact mo_shl_lt _ _ | exact mo_ushr_lt _ _ | exact mo_or_lt (by decide) (mo_and_lt (mo_rd_lt _ _)) | exact mo_or_lt (mo_shl_lt _ _) (mo_and_lt (mo_rd_lt _ _)))) (by rw [xl128]; rfl) rfl rfl) ?_
  refine sy_Fs (sy_iconst (v := 0) xc128_334 (by decide) sy_refl) ?_
  refine sy_Fs (sx_ist (j := 5) (ls' := [(2, pl 0, 0), (0, 1, 0), (0, 1, 0), (0, 1, 0), (0, 0, 0), (0, 0, 0), (0, 0, 0), (255, 0, 0)]) xc128_335 rfl (sy_ok0 (by first | decide | assumption | omega | exact mo_rd_lt _ _ | exact mo_add_lt _ _ | exact mo_sub_lt _ _ | exact mo_mul_lt _ _ | exact mo_shl_lt _ _ | exact mo_ushr_lt _ _ | exact mo_or_lt (by decide) (mo_and_lt (mo_rd_lt _ _)) | exact mo_or_lt (mo_shl_lt _ _) (mo_and_lt (mo_rd_lt _ _)))) (by rw [xl128]; rfl) rfl rfl) ?_
  refine sy_Fs (sy_ild xc128_337 rfl rfl sy_refl) ?_
  refine sy_Fs (sy_ildn xc128_339 rfl rfl sy_refl) ?_
  refine sy_Fs (sy_ge_f xc128_340 (by decide) (by decide) (by decide) sy_refl) ?_
  refine sy_Fs (sy_aldn xc128_343 rfl rfl sy_refl) ?_
  refine sy_Fs (sy_gf xc128_344 xf128_412 rfl (wh_at hw 0 rfl) rfl (fh_at hX0 26 rfl rfl) sy_refl) ?_
  refine sy_Fs (sy_bipush (v := 24) xc128_347 (by decide) (by decide) sy_refl) ?_
  refine sy_Fs (sy_ildn xc128_349 rfl rfl sy_refl) ?_
  refine sy_Fs (sx_imul (z := 24) xc128_350 (by decide)) ?_
  refine sy_Fs (sy_ild xc128_351 rfl rfl sy_refl) ?_
  refine sy_Fs (sx_iadd (z := 24) xc128_353 (by decide)) ?_
  refine sy_Fs (sx_ial (z := 24) xc128_354 (wh_at hw 24 rfl) (by decide) (by decide) ((mv_rd_self 32 Fn 24 24).trans (by decide))) ?_
  refine sy_Fs (sy_ild xc128_355 rfl rfl sy_refl) ?_
  refine sy_Fs (sx_isub (z := 24) xc128_357 (by decide)) ?_
  refine sy_Fs (sx_ist (j := 6) (ls' := [(2, pl 0, 0), (0, 1, 0), (0, 1, 0), (0, 1, 0), (0, 0, 0), (0, 0, 0), (0, 24, 0), (255, 0, 0)]) xc128_358 rfl (sy_ok0 (by first | decide | assumption | omega | exact mo_rd_lt _ _ | exact mo_add_lt _ _ | exact mo_sub_lt _ _ | exact mo_mul_lt _ _ | exact mo_shl_lt _ _ | exact mo_ushr_lt _ _ | exact mo_or_lt (by decide) (mo_and_lt (mo_rd_lt _ _)) | exact mo_or_lt (mo_shl_lt _ _) (mo_and_lt (mo_rd_lt _ _)))) (by rw [xl128]; rfl) rfl rfl) ?_
  refine sy_Fs (sy_aldn xc128_360 rfl rfl sy_refl) ?_
  refine sy_Fs (sy_gf xc128_361 xf128_412 rfl (wh_at hw 0 rfl) rfl (fh_at hX0 26 rfl rfl) sy_refl) ?_
  refine sy_Fs (sy_bipush (v := 24) xc128_364 (by decide) (by decide) sy_refl) ?_
  refine sy_Fs (sy_ildn xc128_366 rfl rfl sy_refl) ?_
  refine sy_Fs (sx_imul (z := 24) xc128_367 (by decide)) ?_
  refine sy_Fs (sy_ild xc128_368 rfl rfl sy_refl) ?_
  refine sy_Fs (sx_iadd (z := 24) xc128_370 (by decide)) ?_
  refine sy_Fs (sx_ial (z := 24) xc128_371 (wh_at hw 24 rfl) (by decide) (by decide) ((mv_rd_self 32 Fn 24 24).trans (by decide))) ?_
  refine sy_Fs (sx_ist (j := 4) (ls' := [(2, pl 0, 0), (0, 1, 0), (0, 1, 0), (0, 1, 0), (0, 24, 0), (0, 0, 0), (0, 24, 0), (255, 0, 0)]) xc128_372 rfl (sy_ok0 (by first | decide | assumption | omega | exact mo_rd_lt _ _ | exact mo_add_lt _ _ | exact mo_sub_lt _ _ | exact mo_mul_lt _ _ | exact mo_shl_lt _ _ | exact mo_ushr_lt _ _ | exact mo_or_lt (by decide) (mo_and_lt (mo_rd_lt _ _)) | exact mo_or_lt (mo_shl_lt _ _) (mo_and_lt (mo_rd_lt _ _)))) (by rw [xl128]; rfl) rfl rfl) ?_
  refine sy_Fs (sy_iconst (v := 0) xc128_374 (by decide) sy_refl) ?_
  refine sy_Fs (sx_ist (j := 7) (ls' := [(2, pl 0, 0), (0, 1, 0), (0, 1, 0), (0, 1, 0), (0, 24, 0), (0, 0, 0), (0, 24, 0), (0, 0, 0)]) xc128_375 rfl (sy_ok0 (by first | decide | assumption | omega | exact mo_rd_lt _ _ | exact mo_add_lt _ _ | exact mo_sub_lt _ _ | exact mo_mul_lt _ _ | exact mo_shl_lt _ _ | exact mo_ushr_lt _ _ | exact mo_or_lt (by decide) (mo_and_lt (mo_rd_lt _ _)) | exact mo_or_lt (mo_shl_lt _ _) (mo_and_lt (mo_rd_lt _ _)))) (by rw [xl128]; rfl) rfl rfl) ?_
  refine sy_Fs (sy_ild xc128_377 rfl rfl sy_refl) ?_
  refine sy_Fs (sy_ild xc128_379 rfl rfl sy_refl) ?_
  refine sy_Fs (sy_bipush (v := 64) xc128_381 (by decide) (by decide) sy_refl) ?_
  refine sy_Fs (sx_idiv (z := 0) xc128_383 (by decide) (by decide)) ?_
  refine sy_Fs (sy_ge_t (pc' := 399) xc128_384 (by decide) (by decide) (by decide) (by decide) sy_refl) ?_
  refine sy_Fs (sy_aldn xc128_399 rfl rfl sy_refl) ?_
  refine sy_Fs (sy_ildn xc128_400 rfl rfl sy_refl) ?_
  refine sy_Fs (sy_iconst (v := 0) xc128_401 (by decide) sy_refl) ?_
  obtain ⟨ret, w, ⟨rfl, X0, hw1, hX1x⟩, hC⟩ := wq_bit8 (n := n) hw hX0 (v := 0) (by decide)
  refine sy_Fs (sy_callG (kd := 3) (as := [(2, pl 0, 0), (0, 1, 0), (0, 0, 0)]) (S0 := []) (ret := []) xc128_402 (sy_calV (as := [(2, pl 0, 0), (0, 1, 0), (0, 0, 0)]) (S0 := []) xm128_629 rfl rfl) rfl rfl (sy_rcvm xi130 (wh_at hw 0 rfl)) rfl (sy_oka (sy_oks_cons (sy_ok2 (wh_lt hw 0 (by first | decide | assumption))) (sy_oks_cons (sy_ok0 (by first | decide | assumption | omega | exact mo_rd_lt _ _ | exact mo_add_lt _ _ | exact mo_sub_lt _ _ | exact mo_mul_lt _ _ | exact mo_shl_lt _ _ | exact mo_ushr_lt _ _ | exact mo_or_lt (by decide) (mo_and_lt (mo_rd_lt _ _)) | exact mo_or_lt (mo_shl_lt _ _) (mo_and_lt (mo_rd_lt _ _)))) (sy_oks_cons (sy_ok0 (by first | decide | assumption | omega | exact mo_rd_lt _ _ | exact mo_add_lt _ _ | exact mo_sub_lt _ _ | exact mo_mul_lt _ _ | exact mo_shl_lt _ _ | exact mo_ushr_lt _ _ | exact mo_or_lt (by decide) (mo_and_lt (mo_rd_lt _ _)) | exact mo_or_lt (mo_shl_lt _ _) (mo_and_lt (mo_rd_lt _ _)))) sy_oks_nil))) rfl xl130) hC (by decide) (by rw [xl130]; decide) sy_refl) ?_
  replace hw := hw1
  replace hX0 := hX1x
  refine sy_Fs (sy_iconst (v := 5) xc128_405 (by decide) sy_refl) ?_
  refine sy_Fs (sx_ist (j := 7) (ls' := [(2, pl 0, 0), (0, 1, 0), (0, 1, 0), (0, 1, 0), (0, 24, 0), (0, 0, 0), (0, 24, 0), (0, 5, 0)]) xc128_406 rfl (sy_ok0 (by first | decide | assumption | omega | exact mo_rd_lt _ _ | exact mo_add_lt _ _ | exact mo_sub_lt _ _ | exact mo_mul_lt _ _ | exact mo_shl_lt _ _ | exact mo_ushr_lt _ _ | exact mo_or_lt (by decide) (mo_and_lt (mo_rd_lt _ _)) | exact mo_or_lt (mo_shl_lt _ _) (mo_and_lt (mo_rd_lt _ _)))) (by rw [xl128]; rfl) rfl rfl) ?_
  refine sy_Fs (sy_ild xc128_408 rfl rfl sy_refl) ?_
  refine sy_Fs (sy_iflt_f xc128_410 (by decide) (by decide) sy_refl) ?_
  refine sy_Fs (sy_aldn xc128_413 rfl rfl sy_refl) ?_
  refine sy_Fs (sy_ildn xc128_414 rfl rfl sy_refl) ?_
  refine sy_Fs (sy_ild xc128_415 rfl rfl sy_refl) ?_
  refine sy_Fs (sy_ild xc128_417 rfl rfl sy_refl) ?_
  refine sy_Fs (sx_ishr (z := 0) xc128_419 (by decide)) ?_
  refine sy_Fs (sy_iconst (v := 1) xc128_420 (by decide) sy_refl) ?_
  refine sy_Fs (sx_iand (z := 0) xc128_421 (by decide)) ?_
  obtain ⟨ret, w, ⟨rfl, X0, hw1, hX1x⟩, hC⟩ := wq_bit9 (n := n) hw hX0 (v := 0) (by decide)
  refine sy_Fs (sy_callG (kd := 3) (as := [(2, pl 0, 0), (0, 1, 0), (0, 0, 0)]) (S0 := []) (ret := []) xc128_422 (sy_calV (as := [(2, pl 0, 0), (0, 1, 0), (0, 0, 0)]) (S0 := []) xm128_629 rfl rfl) rfl rfl (sy_rcvm xi130 (wh_at hw 0 rfl)) rfl (sy_oka (sy_oks_cons (sy_ok2 (wh_lt hw 0 (by first | decide | assumption))) (sy_oks_cons (sy_ok0 (by first | decide | assumption | omega | exact mo_rd_lt _ _ | exact mo_add_lt _ _ | exact mo_sub_lt _ _ | exact mo_mul_lt _ _ | exact mo_shl_lt _ _ | exact mo_ushr_lt _ _ | exact mo_or_lt (by decide) (mo_and_lt (mo_rd_lt _ _)) | exact mo_or_lt (mo_shl_lt _ _) (mo_and_lt (mo_rd_lt _ _)))) (sy_oks_cons (sy_ok0 (by first | decide | assumption | omega | exact mo_rd_lt _ _ | exact mo_add_lt _ _ | exact mo_sub_lt _ _ | exact mo_mul_lt _ _ | exact mo_shl_lt _ _ | exact mo_ushr_lt _ _ | exact mo_or_lt (by decide) (mo_and_lt (mo_rd_lt _ _)) | exact mo_or_lt (mo_shl_lt _ _) (mo_and_lt (mo_rd_lt _ _)))) sy_oks_nil))) rfl xl130) hC (by decide) (by rw [xl130]; decide) sy_refl) ?_
  replace hw := hw1
  replace hX0 := hX1x
  refine sy_Fs (sx_iinc (c := 4294967295) (z := 4) (ls' := [(2, pl 0, 0), (0, 1, 0), (0, 1, 0), (0, 1, 0), (0, 24, 0), (0, 0, 0), (0, 24, 0), (0, 4, 0)]) xc128_425 rfl (by decide) (by rw [xl128]; rfl) rfl (by decide) rfl) ?_
  refine sy_Fs (sy_goto (pc' := 408) xc128_428 (by decide) (by decide) sy_refl) ?_
  refine sy_Fs (sy_ild xc128_408 rfl rfl sy_refl) ?_
  refine sy_Fs (sy_iflt_f xc128_410 (by decide) (by decide) sy_refl) ?_
  refine sy_Fs (sy_aldn xc128_413 rfl rfl sy_refl) ?_
  refine sy_Fs (sy_ildn xc128_414 rfl rfl sy_refl) ?_
  refine sy_Fs (sy_ild xc128_415 rfl rfl sy_refl) ?_
  refine sy_Fs (sy_ild xc128_417 rfl rfl sy_refl) ?_
  refine sy_Fs (sx_ishr (z := 1) xc128_419 (by decide)) ?_
  refine sy_Fs (sy_iconst (v := 1) xc128_420 (by decide) sy_refl) ?_
  refine sy_Fs (sx_iand (z := 1) xc128_421 (by decide)) ?_
  obtain ⟨ret, w, ⟨rfl, X0, hw1, hX1x⟩, hC⟩ := wq_bit10 (n := n) hw hX0 (v := 1) (by decide)
  refine sy_Fs (sy_callG (kd := 3) (as := [(2, pl 0, 0), (0, 1, 0), (0, 1, 0)]) (S0 := []) (ret := []) xc128_422 (sy_calV (as := [(2, pl 0, 0), (0, 1, 0), (0, 1, 0)]) (S0 := []) xm128_629 rfl rfl) rfl rfl (sy_rcvm xi130 (wh_at hw 0 rfl)) rfl (sy_oka (sy_oks_cons (sy_ok2 (wh_lt hw 0 (by first | decide | assumption))) (sy_oks_cons (sy_ok0 (by first | decide | assumption | omega | exact mo_rd_lt _ _ | exact mo_add_lt _ _ | exact mo_sub_lt _ _ | exact mo_mul_lt _ _ | exact mo_shl_lt _ _ | exact mo_ushr_lt _ _ | exact mo_or_lt (by decide) (mo_and_lt (mo_rd_lt _ _)) | exact mo_or_lt (mo_shl_lt _ _) (mo_and_lt (mo_rd_lt _ _)))) (sy_oks_cons (sy_ok0 (by first | decide | assumption | omega | exact mo_rd_lt _ _ | exact mo_add_lt _ _ | exact mo_sub_lt _ _ | exact mo_mul_lt _ _ | exact mo_shl_lt _ _ | exact mo_ushr_lt _ _ | exact mo_or_lt (by decide) (mo_and_lt (mo_rd_lt _ _)) | exact mo_or_lt (mo_shl_lt _ _) (mo_and_lt (mo_rd_lt _ _)))) sy_oks_nil))) rfl xl130) hC (by decide) (by rw [xl130]; decide) sy_refl) ?_
  replace hw := hw1
  replace hX0 := hX1x
  refine sy_Fs (sx_iinc (c := 4294967295) (z := 3) (ls' := [(2, pl 0, 0), (0, 1, 0), (0, 1, 0), (0, 1, 0), (0, 24, 0), (0, 0, 0), (0, 24, 0), (0, 3, 0)]) xc128_425 rfl (by decide) (by rw [xl128]; rfl) rfl (by decide) rfl) ?_
  refine sy_Fs (sy_goto (pc' := 408) xc128_428 (by decide) (by decide) sy_refl) ?_
  refine sy_Fs (sy_ild xc128_408 rfl rfl sy_refl) ?_
  refine sy_Fs (sy_iflt_f xc128_410 (by decide) (by decide) sy_refl) ?_
  refine sy_Fs (sy_aldn xc128_413 rfl rfl sy_refl) ?_
  refine sy_Fs (sy_ildn xc128_414 rfl rfl sy_refl) ?_
  refine sy_Fs (sy_ild xc128_415 rfl rfl sy_refl) ?_
  refine sy_Fs (sy_ild xc128_417 rfl rfl sy_refl) ?_
  refine sy_Fs (sx_ishr (z := 3) xc128_419 (by decide)) ?_
  refine sy_Fs (sy_iconst (v := 1) xc128_420 (by decide) sy_refl) ?_
  refine sy_Fs (sx_iand (z := 1) xc128_421 (by decide)) ?_
  obtain ⟨ret, w, ⟨rfl, X0, hw1, hX1x⟩, hC⟩ := wq_bit11 (n := n) hw hX0 (v := 1) (by decide)
  refine sy_Fs (sy_callG (kd := 3) (as := [(2, pl 0, 0), (0, 1, 0), (0, 1, 0)]) (S0 := []) (ret := []) xc128_422 (sy_calV (as := [(2, pl 0, 0), (0, 1, 0), (0, 1, 0)]) (S0 := []) xm128_629 rfl rfl) rfl rfl (sy_rcvm xi130 (wh_at hw 0 rfl)) rfl (sy_oka (sy_oks_cons (sy_ok2 (wh_lt hw 0 (by first | decide | assumption))) (sy_oks_cons (sy_ok0 (by first | decide | assumption | omega | exact mo_rd_lt _ _ | exact mo_add_lt _ _ | exact mo_sub_lt _ _ | exact mo_mul_lt _ _ | exact mo_shl_lt _ _ | exact mo_ushr_lt _ _ | exact mo_or_lt (by decide) (mo_and_lt (mo_rd_lt _ _)) | exact mo_or_lt (mo_shl_lt _ _) (mo_and_lt (mo_rd_lt _ _)))) (sy_oks_cons (sy_ok0 (by first | decide | assumption | omega | exact mo_rd_lt _ _ | exact mo_add_lt _ _ | exact mo_sub_lt _ _ | exact mo_mul_lt _ _ | exact mo_shl_lt _ _ | exact mo_ushr_lt _ _ | exact mo_or_lt (by decide) (mo_and_lt (mo_rd_lt _ _)) | exact mo_or_lt (mo_shl_lt _ _) (mo_and_lt (mo_rd_lt _ _)))) sy_oks_nil))) rfl xl130) hC (by decide) (by rw [xl130]; decide) sy_refl) ?_
  replace hw := hw1
  replace hX0 := hX1x
  refine sy_Fs (sx_iinc (c := 4294967295) (z := 2) (ls' := [(2, pl 0, 0), (0, 1, 0), (0, 1, 0), (0, 1, 0), (0, 24, 0), (0, 0, 0), (0, 24, 0), (0, 2, 0)]) xc128_425 rfl (by decide) (by rw [xl128]; rfl) rfl (by decide) rfl) ?_
  refine sy_Fs (sy_goto (pc' := 408) xc128_428 (by decide) (by decide) sy_refl) ?_
  refine sy_Fs (sy_ild xc128_408 rfl rfl sy_refl) ?_
  refine sy_Fs (sy_iflt_f xc128_410 (by decide) (by decide) sy_refl) ?_
  refine sy_Fs (sy_aldn xc128_413 rfl rfl sy_refl) ?_
  refine sy_Fs (sy_ildn xc128_414 rfl rfl sy_refl) ?_
  refine sy_Fs (sy_ild xc128_415 rfl rfl sy_refl) ?_
  refine sy_Fs (sy_ild xc128_417 rfl rfl sy_refl) ?_
  refine sy_Fs (sx_ishr (z := 6) xc128_419 (by decide)) ?_
  refine sy_Fs (sy_iconst (v := 1) xc128_420 (by decide) sy_refl) ?_
  refine sy_Fs (sx_iand (z := 0) xc128_421 (by decide)) ?_
  obtain ⟨ret, w, ⟨rfl, X0, hw1, hX1x⟩, hC⟩ := wq_bit12 (n := n) hw hX0 (v := 0) (by decide)
  refine sy_Fs (sy_callG (kd := 3) (as := [(2, pl 0, 0), (0, 1, 0), (0, 0, 0)]) (S0 := []) (ret := []) xc128_422 (sy_calV (as := [(2, pl 0, 0), (0, 1, 0), (0, 0, 0)]) (S0 := []) xm128_629 rfl rfl) rfl rfl (sy_rcvm xi130 (wh_at hw 0 rfl)) rfl (sy_oka (sy_oks_cons (sy_ok2 (wh_lt hw 0 (by first | decide | assumption))) (sy_oks_cons (sy_ok0 (by first | decide | assumption | omega | exact mo_rd_lt _ _ | exact mo_add_lt _ _ | exact mo_sub_lt _ _ | exact mo_mul_lt _ _ | exact mo_shl_lt _ _ | exact mo_ushr_lt _ _ | exact mo_or_lt (by decide) (mo_and_lt (mo_rd_lt _ _)) | exact mo_or_lt (mo_shl_lt _ _) (mo_and_lt (mo_rd_lt _ _)))) (sy_oks_cons (sy_ok0 (by first | decide | assumption | omega | exact mo_rd_lt _ _ | exact mo_add_lt _ _ | exact mo_sub_lt _ _ | exact mo_mul_lt _ _ | exact mo_shl_lt _ _ | exact mo_ushr_lt _ _ | exact mo_or_lt (by decide) (mo_and_lt (mo_rd_lt _ _)) | exact mo_or_lt (mo_shl_lt _ _) (mo_and_lt (mo_rd_lt _ _)))) sy_oks_nil))) rfl xl130) hC (by decide) (by rw [xl130]; decide) sy_refl) ?_
  replace hw := hw1
  replace hX0 := hX1x
  refine sy_Fs (sx_iinc (c := 4294967295) (z := 1) (ls' := [(2, pl 0, 0), (0, 1, 0), (0, 1, 0), (0, 1, 0), (0, 24, 0), (0, 0, 0), (0, 24, 0), (0, 1, 0)]) xc128_425 rfl (by decide) (by rw [xl128]; rfl) rfl (by decide) rfl) ?_
  refine sy_Fs (sy_goto (pc' := 408) xc128_428 (by decide) (by decide) sy_refl) ?_
  refine sy_Fs (sy_ild xc128_408 rfl rfl sy_refl) ?_
  refine sy_Fs (sy_iflt_f xc128_410 (by decide) (by decide) sy_refl) ?_
  refine sy_Fs (sy_aldn xc128_413 rfl rfl sy_refl) ?_
  refine sy_Fs (sy_ildn xc128_414 rfl rfl sy_refl) ?_
  refine sy_Fs (sy_ild xc128_415 rfl rfl sy_refl) ?_
  refine sy_Fs (sy_ild xc128_417 rfl rfl sy_refl) ?_
  refine sy_Fs (sx_ishr (z := 12) xc128_419 (by decide)) ?_
  refine sy_Fs (sy_iconst (v := 1) xc128_420 (by decide) sy_refl) ?_
  refine sy_Fs (sx_iand (z := 0) xc128_421 (by decide)) ?_
  obtain ⟨ret, w, ⟨rfl, X0, hw1, hX1x⟩, hC⟩ := wq_bit13 (n := n) hw hX0 (v := 0) (by decide)
  refine sy_Fs (sy_callG (kd := 3) (as := [(2, pl 0, 0), (0, 1, 0), (0, 0, 0)]) (S0 := []) (ret := []) xc128_422 (sy_calV (as := [(2, pl 0, 0), (0, 1, 0), (0, 0, 0)]) (S0 := []) xm128_629 rfl rfl) rfl rfl (sy_rcvm xi130 (wh_at hw 0 rfl)) rfl (sy_oka (sy_oks_cons (sy_ok2 (wh_lt hw 0 (by first | decide | assumption))) (sy_oks_cons (sy_ok0 (by first | decide | assumption | omega | exact mo_rd_lt _ _ | exact mo_add_lt _ _ | exact mo_sub_lt _ _ | exact mo_mul_lt _ _ | exact mo_shl_lt _ _ | exact mo_ushr_lt _ _ | exact mo_or_lt (by decide) (mo_and_lt (mo_rd_lt _ _)) | exact mo_or_lt (mo_shl_lt _ _) (mo_and_lt (mo_rd_lt _ _)))) (sy_oks_cons (sy_ok0 (by first | decide | assumption | omega | exact mo_rd_lt _ _ | exact mo_add_lt _ _ | exact mo_sub_lt _ _ | exact mo_mul_lt _ _ | exact mo_shl_lt _ _ | exact mo_ushr_lt _ _ | exact mo_or_lt (by decide) (mo_and_lt (mo_rd_lt _ _)) | exact mo_or_lt (mo_shl_lt _ _) (mo_and_lt (mo_rd_lt _ _)))) sy_oks_nil))) rfl xl130) hC (by decide) (by rw [xl130]; decide) sy_refl) ?_
  replace hw := hw1
  replace hX0 := hX1x
  refine sy_Fs (sx_iinc (c := 4294967295) (z := 0) (ls' := [(2, pl 0, 0), (0, 1, 0), (0, 1, 0), (0, 1, 0), (0, 24, 0), (0, 0, 0), (0, 24, 0), (0, 0, 0)]) xc128_425 rfl (by decide) (by rw [xl128]; rfl) rfl (by decide) rfl) ?_
  refine sy_Fs (sy_goto (pc' := 408) xc128_428 (by decide) (by decide) sy_refl) ?_
  refine sy_Fs (sy_ild xc128_408 rfl rfl sy_refl) ?_
  refine sy_Fs (sy_iflt_f xc128_410 (by decide) (by decide) sy_refl) ?_
  refine sy_Fs (sy_aldn xc128_413 rfl rfl sy_refl) ?_
  refine sy_Fs (sy_ildn xc128_414 rfl rfl sy_refl) ?_
  refine sy_Fs (sy_ild xc128_415 rfl rfl sy_refl) ?_
  refine sy_Fs (sy_ild xc128_417 rfl rfl sy_refl) ?_
  refine sy_Fs (sx_ishr (z := 24) xc128_419 (by decide)) ?_
  refine sy_Fs (sy_iconst (v := 1) xc128_420 (by decide) sy_refl) ?_
  refine sy_Fs (sx_iand (z := 0) xc128_421 (by decide)) ?_
  obtain ⟨ret, w, ⟨rfl, X0, hw1, hX1x⟩, hC⟩ := wq_bit14 (n := n) hw hX0 (v := 0) (by decide)
  refine sy_Fs (sy_callG (kd := 3) (as := [(2, pl 0, 0), (0, 1, 0), (0, 0, 0)]) (S0 := []) (ret := []) xc128_422 (sy_calV (as := [(2, pl 0, 0), (0, 1, 0), (0, 0, 0)]) (S0 := []) xm128_629 rfl rfl) rfl rfl (sy_rcvm xi130 (wh_at hw 0 rfl)) rfl (sy_oka (sy_oks_cons (sy_ok2 (wh_lt hw 0 (by first | decide | assumption))) (sy_oks_cons (sy_ok0 (by first | decide | assumption | omega | exact mo_rd_lt _ _ | exact mo_add_lt _ _ | exact mo_sub_lt _ _ | exact mo_mul_lt _ _ | exact mo_shl_lt _ _ | exact mo_ushr_lt _ _ | exact mo_or_lt (by decide) (mo_and_lt (mo_rd_lt _ _)) | exact mo_or_lt (mo_shl_lt _ _) (mo_and_lt (mo_rd_lt _ _)))) (sy_oks_cons (sy_ok0 (by first | decide | assumption | omega | exact mo_rd_lt _ _ | exact mo_add_lt _ _ | exact mo_sub_lt _ _ | exact mo_mul_lt _ _ | exact mo_shl_lt _ _ | exact mo_ushr_lt _ _ | exact mo_or_lt (by decide) (mo_and_lt (mo_rd_lt _ _)) | exact mo_or_lt (mo_shl_lt _ _) (mo_and_lt (mo_rd_lt _ _)))) sy_oks_nil))) rfl xl130) hC (by decide) (by rw [xl130]; decide) sy_refl) ?_
  replace hw := hw1
  replace hX0 := hX1x
  refine sy_Fs (sx_iinc (c := 4294967295) (z := 4294967295) (ls' := [(2, pl 0, 0), (0, 1, 0), (0, 1, 0), (0, 1, 0), (0, 24, 0), (0, 0, 0), (0, 24, 0), (0, 4294967295, 0)]) xc128_425 rfl (by decide) (by rw [xl128]; rfl) rfl (by decide) rfl) ?_
  refine sy_Fs (sy_goto (pc' := 408) xc128_428 (by decide) (by decide) sy_refl) ?_
  refine sy_Fs (sy_ild xc128_408 rfl rfl sy_refl) ?_
  refine sy_Fs (sy_iflt_t (pc' := 431) xc128_410 (by decide) (by decide) (by decide) (by decide) sy_refl) ?_
  refine sy_Fs (sx_iinc (c := 1) (z := 1) (ls' := [(2, pl 0, 0), (0, 1, 0), (0, 1, 0), (0, 1, 0), (0, 24, 0), (0, 1, 0), (0, 24, 0), (0, 4294967295, 0)]) xc128_431 rfl (by decide) (by rw [xl128]; rfl) rfl (by decide) rfl) ?_
  refine sy_Fs (sy_goto (pc' := 337) xc128_434 (by decide) (by decide) sy_refl) ?_
  refine sy_Fs (sy_ild xc128_337 rfl rfl sy_refl) ?_
  refine sy_Fs (sy_ildn xc128_339 rfl rfl sy_refl) ?_
  refine sy_Fs (sy_ge_t (pc' := 437) xc128_340 (by decide) (by decide) (by decide) (by decide) sy_refl) ?_
  refine sy_Fs (sy_aldn xc128_437 rfl rfl sy_refl) ?_
  refine sy_Fs (sy_gf xc128_438 xf128_409 rfl (wh_at hw 0 rfl) rfl (fh_at hX0 29 rfl rfl) sy_refl) ?_
  refine sy_Fs (sy_ildn xc128_441 rfl rfl sy_refl) ?_
  refine sy_Fs (sy_aldn xc128_442 rfl rfl sy_refl) ?_
  refine sy_Fs (sy_gf xc128_443 xf128_619 rfl (wh_at hw 0 rfl) rfl (fh_at hX0 37 rfl rfl) sy_refl) ?_
  refine sy_Fs (sy_bipush (v := 7) xc128_446 (by decide) (by decide) sy_refl) ?_
  refine sy_Fs (sx_iadd (z := 22) xc128_448 (by decide)) ?_
  refine sy_Fs (sy_bipush (v := 8) xc128_449 (by decide) (by decide) sy_refl) ?_
  refine sy_Fs (sx_idiv (z := 2) xc128_451 (by decide) (by decide)) ?_
  refine sy_Fw (i := 27) (x := (1, 0, 40, (mv_wr 32 Fs 1 2))) hw (by decide) (sy_ias (i := 1) xc128_452 (wh_at hw 27 rfl) rfl (by decide) (by decide) rfl sy_refl) ?_
  intro w hw
  simp only [List.set_cons_zero, List.set_cons_succ] at hw
  exact sy_Fv xc128_453 xr128 ⟨rfl, X0, P1, W1, V1, S1, M1, T1, u1, l1, hw, hX0⟩
end QK
