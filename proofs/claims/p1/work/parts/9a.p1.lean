/-! THE REFERENCE'S MINE, VII: build, mine -/
theorem xc126_0 : tt_cd 126 0 = (1, .aload_n 0, 1) := by decide +kernel
theorem xc126_1 : tt_cd 126 1 = (3, .getfield 632, 3) := by decide +kernel
theorem xc126_4 : tt_cd 126 4 = (1, .istore 5, 2) := by decide +kernel
theorem xc126_6 : tt_cd 126 6 = (1, .aload_n 0, 1) := by decide +kernel
theorem xc126_7 : tt_cd 126 7 = (3, .getfield 388, 3) := by decide +kernel
theorem xf126_388 : tt_fl 126 388 = (1, 0, 39) := by decide +kernel
theorem xc126_10 : tt_cd 126 10 = (1, .iload 5, 2) := by decide +kernel
theorem xc126_12 : tt_cd 126 12 = (1, .iload_n 1, 1) := by decide +kernel
theorem xc126_13 : tt_cd 126 13 = (6, .iastore, 1) := by decide +kernel
theorem xc126_14 : tt_cd 126 14 = (1, .aload_n 0, 1) := by decide +kernel
theorem xc126_15 : tt_cd 126 15 = (3, .getfield 391, 3) := by decide +kernel
theorem xf126_391 : tt_fl 126 391 = (1, 0, 40) := by decide +kernel
theorem xc126_18 : tt_cd 126 18 = (1, .iload 5, 2) := by decide +kernel
theorem xc126_20 : tt_cd 126 20 = (1, .iload_n 1, 1) := by decide +kernel
theorem xc126_21 : tt_cd 126 21 = (5, .ifCond .ge 7, 3) := by decide +kernel
theorem xc126_28 : tt_cd 126 28 = (1, .aload_n 0, 1) := by decide +kernel
theorem xc126_29 : tt_cd 126 29 = (3, .getfield 391, 3) := by decide +kernel
theorem xc126_32 : tt_cd 126 32 = (1, .iload_n 1, 1) := by decide +kernel
theorem xc126_33 : tt_cd 126 33 = (3, .iaload, 1) := by decide +kernel
theorem xc126_34 : tt_cd 126 34 = (2, .iconst 1, 1) := by decide +kernel
theorem xc126_35 : tt_cd 126 35 = (2, .iadd, 1) := by decide +kernel
theorem xc126_36 : tt_cd 126 36 = (6, .iastore, 1) := by decide +kernel
theorem xc126_37 : tt_cd 126 37 = (1, .aload_n 0, 1) := by decide +kernel
theorem xc126_38 : tt_cd 126 38 = (3, .getfield 394, 3) := by decide +kernel
theorem xf126_394 : tt_fl 126 394 = (1, 0, 41) := by decide +kernel
theorem xc126_41 : tt_cd 126 41 = (1, .iload 5, 2) := by decide +kernel
theorem xc126_43 : tt_cd 126 43 = (1, .iload_n 1, 1) := by decide +kernel
theorem xc126_44 : tt_cd 126 44 = (5, .ifCond .ge 7, 3) := by decide +kernel
theorem xc126_51 : tt_cd 126 51 = (1, .aload_n 0, 1) := by decide +kernel
theorem xc126_52 : tt_cd 126 52 = (3, .getfield 394, 3) := by decide +kernel
theorem xc126_55 : tt_cd 126 55 = (1, .iload_n 1, 1) := by decide +kernel
theorem xc126_56 : tt_cd 126 56 = (3, .iaload, 1) := by decide +kernel
theorem xc126_57 : tt_cd 126 57 = (1, .iload_n 2, 1) := by decide +kernel
theorem xc126_58 : tt_cd 126 58 = (2, .iadd, 1) := by decide +kernel
theorem xc126_59 : tt_cd 126 59 = (6, .iastore, 1) := by decide +kernel
theorem xc126_60 : tt_cd 126 60 = (1, .aload_n 0, 1) := by decide +kernel
theorem xc126_61 : tt_cd 126 61 = (3, .getfield 397, 3) := by decide +kernel
theorem xc126_64 : tt_cd 126 64 = (1, .iload 5, 2) := by decide +kernel
theorem xc126_66 : tt_cd 126 66 = (1, .iload_n 1, 1) := by decide +kernel
theorem xc126_67 : tt_cd 126 67 = (5, .ifCond .ge 7, 3) := by decide +kernel
theorem xc126_74 : tt_cd 126 74 = (1, .aload_n 0, 1) := by decide +kernel
theorem xc126_75 : tt_cd 126 75 = (3, .getfield 391, 3) := by decide +kernel
theorem xc126_78 : tt_cd 126 78 = (1, .iload 5, 2) := by decide +kernel
theorem xc126_80 : tt_cd 126 80 = (3, .iaload, 1) := by decide +kernel
theorem xc126_81 : tt_cd 126 81 = (2, .iconst 4, 1) := by decide +kernel
theorem xc126_82 : tt_cd 126 82 = (2, .irem, 1) := by decide +kernel
theorem xc126_83 : tt_cd 126 83 = (5, .ifCond .ne 40, 3) := by decide +kernel
theorem xc126_123 : tt_cd 126 123 = (1, .aload_n 0, 1) := by decide +kernel
theorem xc126_124 : tt_cd 126 124 = (3, .getfield 397, 3) := by decide +kernel
theorem xc126_127 : tt_cd 126 127 = (1, .iload_n 1, 1) := by decide +kernel
theorem xc126_128 : tt_cd 126 128 = (3, .iaload, 1) := by decide +kernel
theorem xc126_129 : tt_cd 126 129 = (6, .iastore, 1) := by decide +kernel
theorem xc126_130 : tt_cd 126 130 = (1, .aload_n 0, 1) := by decide +kernel
theorem xc126_131 : tt_cd 126 131 = (3, .getfield 403, 3) := by decide +kernel
theorem xf126_403 : tt_fl 126 403 = (1, 0, 44) := by decide +kernel
theorem xc126_134 : tt_cd 126 134 = (1, .iload 5, 2) := by decide +kernel
theorem xc126_136 : tt_cd 126 136 = (2, .iconst 1, 1) := by decide +kernel
theorem xc126_137 : tt_cd 126 137 = (1, .aload_n 0, 1) := by decide +kernel
theorem xc126_138 : tt_cd 126 138 = (3, .getfield 397, 3) := by decide +kernel
theorem xc126_141 : tt_cd 126 141 = (1, .iload 5, 2) := by decide +kernel
theorem xc126_143 : tt_cd 126 143 = (3, .iaload, 1) := by decide +kernel
theorem xc126_144 : tt_cd 126 144 = (2, .ishl, 1) := by decide +kernel
theorem xc126_145 : tt_cd 126 145 = (1, .iload_n 1, 1) := by decide +kernel
theorem xc126_146 : tt_cd 126 146 = (5, .ifCond .ge 7, 3) := by decide +kernel
theorem xc126_153 : tt_cd 126 153 = (1, .aload_n 0, 1) := by decide +kernel
theorem xc126_154 : tt_cd 126 154 = (3, .getfield 403, 3) := by decide +kernel
theorem xc126_157 : tt_cd 126 157 = (1, .iload_n 1, 1) := by decide +kernel
theorem xc126_158 : tt_cd 126 158 = (3, .iaload, 1) := by decide +kernel
theorem xc126_159 : tt_cd 126 159 = (2, .iadd, 1) := by decide +kernel
theorem xc126_160 : tt_cd 126 160 = (6, .iastore, 1) := by decide +kernel
theorem xc126_161 : tt_cd 126 161 = (1, .aload_n 0, 1) := by decide +kernel
theorem xc126_162 : tt_cd 126 162 = (3, .getfield 376, 3) := by decide +kernel
theorem xf126_376 : tt_fl 126 376 = (1, 0, 35) := by decide +kernel
theorem xc126_165 : tt_cd 126 165 = (1, .iload 5, 2) := by decide +kernel
theorem xc126_167 : tt_cd 126 167 = (2, .iconst 0, 1) := by decide +kernel
theorem xc126_168 : tt_cd 126 168 = (6, .iastore, 1) := by decide +kernel
theorem xc126_169 : tt_cd 126 169 = (1, .aload_n 0, 1) := by decide +kernel
theorem xc126_170 : tt_cd 126 170 = (3, .getfield 379, 3) := by decide +kernel
theorem xf126_379 : tt_fl 126 379 = (1, 0, 36) := by decide +kernel
theorem xc126_173 : tt_cd 126 173 = (1, .iload 5, 2) := by decide +kernel
theorem xc126_175 : tt_cd 126 175 = (2, .iconst 0, 1) := by decide +kernel
theorem xc126_176 : tt_cd 126 176 = (6, .iastore, 1) := by decide +kernel
theorem xc126_177 : tt_cd 126 177 = (1, .aload_n 0, 1) := by decide +kernel
theorem xc126_178 : tt_cd 126 178 = (3, .getfield 433, 3) := by decide +kernel
theorem xf126_433 : tt_fl 126 433 = (1, 0, 57) := by decide +kernel
theorem xc126_181 : tt_cd 126 181 = (2, .iconst 0, 1) := by decide +kernel
theorem xc126_182 : tt_cd 126 182 = (2, .iconst 0, 1) := by decide +kernel
theorem xc126_183 : tt_cd 126 183 = (6, .bastore, 1) := by decide +kernel
theorem xc126_184 : tt_cd 126 184 = (1, .aload_n 0, 1) := by decide +kernel
theorem xc126_185 : tt_cd 126 185 = (3, .getfield 433, 3) := by decide +kernel
theorem xc126_188 : tt_cd 126 188 = (2, .iconst 1, 1) := by decide +kernel
theorem xc126_189 : tt_cd 126 189 = (1, .iload 5, 2) := by decide +kernel
theorem xc126_191 : tt_cd 126 191 = (4, .bipush 8, 2) := by decide +kernel
theorem xc126_193 : tt_cd 126 193 = (2, .ishr, 1) := by decide +kernel
theorem xc126_194 : tt_cd 126 194 = (2, .i2b, 1) := by decide +kernel
theorem xc126_195 : tt_cd 126 195 = (6, .bastore, 1) := by decide +kernel
theorem xc126_196 : tt_cd 126 196 = (1, .aload_n 0, 1) := by decide +kernel
theorem xc126_197 : tt_cd 126 197 = (3, .getfield 433, 3) := by decide +kernel
theorem xc126_200 : tt_cd 126 200 = (2, .iconst 2, 1) := by decide +kernel
theorem xc126_201 : tt_cd 126 201 = (1, .iload 5, 2) := by decide +kernel
theorem xc126_203 : tt_cd 126 203 = (2, .i2b, 1) := by decide +kernel
theorem xc126_204 : tt_cd 126 204 = (6, .bastore, 1) := by decide +kernel
theorem xc126_205 : tt_cd 126 205 = (1, .aload_n 0, 1) := by decide +kernel
theorem xc126_206 : tt_cd 126 206 = (3, .getfield 433, 3) := by decide +kernel
theorem xc126_209 : tt_cd 126 209 = (2, .iconst 3, 1) := by decide +kernel
theorem xc126_210 : tt_cd 126 210 = (2, .iconst 1, 1) := by decide +kernel
theorem xc126_211 : tt_cd 126 211 = (6, .bastore, 1) := by decide +kernel
theorem xc126_212 : tt_cd 126 212 = (1, .aload_n 0, 1) := by decide +kernel
theorem xc126_213 : tt_cd 126 213 = (3, .getfield 433, 3) := by decide +kernel
theorem xc126_216 : tt_cd 126 216 = (2, .iconst 4, 1) := by decide +kernel
theorem xc126_217 : tt_cd 126 217 = (4, .sipush 1000, 3) := by decide +kernel
theorem xc126_220 : tt_cd 126 220 = (10, .invokestatic 144, 3) := by decide +kernel
theorem xc126_223 : tt_cd 126 223 = (1, .aload_n 3, 1) := by decide +kernel
theorem xc126_224 : tt_cd 126 224 = (1, .iload 4, 2) := by decide +kernel
theorem xc126_226 : tt_cd 126 226 = (1, .aload_n 0, 1) := by decide +kernel
theorem xc126_227 : tt_cd 126 227 = (3, .getfield 433, 3) := by decide +kernel
theorem xc126_230 : tt_cd 126 230 = (4, .bipush 8, 2) := by decide +kernel
theorem xc126_232 : tt_cd 126 232 = (4, .bipush 20, 2) := by decide +kernel
theorem xc126_234 : tt_cd 126 234 = (10, .invokestatic 184, 3) := by decide +kernel
theorem xm126_184 : tt_ml 126 184 = (1, 110, 5) := by decide +kernel
theorem xc126_237 : tt_cd 126 237 = (1, .aload_n 0, 1) := by decide +kernel
theorem xc126_238 : tt_cd 126 238 = (1, .iload 5, 2) := by decide +kernel
theorem xc126_240 : tt_cd 126 240 = (1, .aload_n 0, 1) := by decide +kernel
theorem xc126_241 : tt_cd 126 241 = (3, .getfield 433, 3) := by decide +kernel
theorem xc126_244 : tt_cd 126 244 = (2, .iconst 0, 1) := by decide +kernel
theorem xc126_245 : tt_cd 126 245 = (4, .bipush 28, 2) := by decide +kernel
theorem xc126_247 : tt_cd 126 247 = (4, .bipush 28, 2) := by decide +kernel
theorem xc126_249 : tt_cd 126 249 = (10, .invokevirtual 642, 3) := by decide +kernel
theorem xm126_642 : tt_ml 126 642 = (3, 127, 5) := by decide +kernel
theorem xi127 : tt_mci 127 = 0 := by decide +kernel
theorem xc126_252 : tt_cd 126 252 = (2, .iconst 0, 1) := by decide +kernel
theorem xc126_253 : tt_cd 126 253 = (1, .istore 6, 2) := by decide +kernel
theorem xc126_255 : tt_cd 126 255 = (2, .iconst 0, 1) := by decide +kernel
theorem xc126_256 : tt_cd 126 256 = (1, .istore 7, 2) := by decide +kernel
theorem xc126_258 : tt_cd 126 258 = (1, .iload 7, 2) := by decide +kernel
theorem xc126_260 : tt_cd 126 260 = (1, .aload_n 0, 1) := by decide +kernel
theorem xc126_261 : tt_cd 126 261 = (3, .getfield 646, 3) := by decide +kernel
theorem xf126_646 : tt_fl 126 646 = (1, 0, 53) := by decide +kernel
theorem xc126_264 : tt_cd 126 264 = (5, .if_icmp .ge 125, 3) := by decide +kernel
theorem xc126_389 : tt_cd 126 389 = (1, .aload_n 0, 1) := by decide +kernel
theorem xc126_390 : tt_cd 126 390 = (1, .iload 6, 2) := by decide +kernel
theorem xc126_392 : tt_cd 126 392 = (6, .putfield 646, 3) := by decide +kernel
theorem xt0_53 : tt_fty 0 53 = .int := by decide +kernel
theorem xn0_53 : tt_ffin 0 53 = false := by decide +kernel
theorem xc126_395 : tt_cd 126 395 = (4, .bipush 105, 2) := by decide +kernel
theorem xc126_397 : tt_cd 126 397 = (1, .iload 5, 2) := by decide +kernel
theorem xc126_399 : tt_cd 126 399 = (2, .imul, 1) := by decide +kernel
theorem xc126_400 : tt_cd 126 400 = (1, .istore 7, 2) := by decide +kernel
theorem xc126_402 : tt_cd 126 402 = (2, .iconst 0, 1) := by decide +kernel
theorem xc126_403 : tt_cd 126 403 = (1, .istore 8, 2) := by decide +kernel
theorem xc126_405 : tt_cd 126 405 = (1, .iload 8, 2) := by decide +kernel
theorem xc126_407 : tt_cd 126 407 = (4, .bipush 32, 2) := by decide +kernel
theorem xc126_409 : tt_cd 126 409 = (5, .if_icmp .ge 39, 3) := by decide +kernel
theorem xc126_412 : tt_cd 126 412 = (1, .aload_n 0, 1) := by decide +kernel
theorem xc126_413 : tt_cd 126 413 = (3, .getfield 382, 3) := by decide +kernel
theorem xc126_416 : tt_cd 126 416 = (1, .iload 7, 2) := by decide +kernel
theorem xc126_418 : tt_cd 126 418 = (1, .iload 8, 2) := by decide +kernel
theorem xc126_420 : tt_cd 126 420 = (2, .iadd, 1) := by decide +kernel
theorem xc126_421 : tt_cd 126 421 = (1, .iload_n 1, 1) := by decide +kernel
theorem xc126_422 : tt_cd 126 422 = (5, .ifCond .ge 7, 3) := by decide +kernel
theorem xc126_429 : tt_cd 126 429 = (1, .aload_n 0, 1) := by decide +kernel
theorem xc126_430 : tt_cd 126 430 = (3, .getfield 385, 3) := by decide +kernel
theorem xc126_433 : tt_cd 126 433 = (4, .bipush 32, 2) := by decide +kernel
theorem xc126_435 : tt_cd 126 435 = (1, .iload_n 1, 1) := by decide +kernel
theorem xc126_436 : tt_cd 126 436 = (2, .imul, 1) := by decide +kernel
theorem xc126_437 : tt_cd 126 437 = (1, .iload 8, 2) := by decide +kernel
theorem xc126_439 : tt_cd 126 439 = (2, .iadd, 1) := by decide +kernel
theorem xc126_440 : tt_cd 126 440 = (3, .baload, 1) := by decide +kernel
theorem xc126_441 : tt_cd 126 441 = (6, .bastore, 1) := by decide +kernel
theorem xc126_442 : tt_cd 126 442 = (1, .iinc 8 1, 3) := by decide +kernel
theorem xc126_445 : tt_cd 126 445 = (5, .goto (-40), 3) := by decide +kernel
theorem xc126_448 : tt_cd 126 448 = (1, .aload_n 0, 1) := by decide +kernel
theorem xc126_449 : tt_cd 126 449 = (1, .iload 5, 2) := by decide +kernel
theorem xc126_451 : tt_cd 126 451 = (10, .invokevirtual 652, 3) := by decide +kernel
theorem xm126_652 : tt_ml 126 652 = (3, 128, 1) := by decide +kernel
theorem xi128 : tt_mci 128 = 0 := by decide +kernel
theorem xc126_454 : tt_cd 126 454 = (1, .aload_n 0, 1) := by decide +kernel
theorem xc126_455 : tt_cd 126 455 = (1, .iload 5, 2) := by decide +kernel
theorem xc126_457 : tt_cd 126 457 = (1, .aload_n 0, 1) := by decide +kernel
theorem xc126_458 : tt_cd 126 458 = (3, .getfield 382, 3) := by decide +kernel
theorem xc126_461 : tt_cd 126 461 = (1, .iload 7, 2) := by decide +kernel
theorem xc126_463 : tt_cd 126 463 = (4, .bipush 32, 2) := by decide +kernel
theorem xc126_465 : tt_cd 126 465 = (2, .iadd, 1) := by decide +kernel
theorem xc126_466 : tt_cd 126 466 = (10, .invokevirtual 655, 3) := by decide +kernel
theorem xm126_655 : tt_ml 126 655 = (3, 131, 3) := by decide +kernel
theorem xi131 : tt_mci 131 = 0 := by decide +kernel
theorem xc126_469 : tt_cd 126 469 = (1, .aload_n 0, 1) := by decide +kernel
theorem xc126_470 : tt_cd 126 470 = (1, .aload_n 0, 1) := by decide +kernel
theorem xc126_471 : tt_cd 126 471 = (3, .getfield 406, 3) := by decide +kernel
theorem xf126_406 : tt_fl 126 406 = (1, 0, 45) := by decide +kernel
theorem xc126_474 : tt_cd 126 474 = (4, .bipush 80, 2) := by decide +kernel
theorem xc126_476 : tt_cd 126 476 = (1, .iload 5, 2) := by decide +kernel
theorem xc126_478 : tt_cd 126 478 = (2, .imul, 1) := by decide +kernel
theorem xc126_479 : tt_cd 126 479 = (1, .aload_n 0, 1) := by decide +kernel
theorem xc126_480 : tt_cd 126 480 = (3, .getfield 409, 3) := by decide +kernel
theorem xf126_409 : tt_fl 126 409 = (1, 0, 46) := by decide +kernel
theorem xc126_483 : tt_cd 126 483 = (1, .iload 5, 2) := by decide +kernel
theorem xc126_485 : tt_cd 126 485 = (3, .iaload, 1) := by decide +kernel
theorem xc126_486 : tt_cd 126 486 = (1, .aload_n 0, 1) := by decide +kernel
theorem xc126_487 : tt_cd 126 487 = (3, .getfield 382, 3) := by decide +kernel
theorem xc126_490 : tt_cd 126 490 = (1, .iload 7, 2) := by decide +kernel
theorem xc126_492 : tt_cd 126 492 = (4, .bipush 64, 2) := by decide +kernel
theorem xc126_494 : tt_cd 126 494 = (2, .iadd, 1) := by decide +kernel
theorem xc126_495 : tt_cd 126 495 = (10, .invokevirtual 156, 3) := by decide +kernel
theorem xc126_498 : tt_cd 126 498 = (1, .aload_n 0, 1) := by decide +kernel
theorem xc126_499 : tt_cd 126 499 = (3, .getfield 382, 3) := by decide +kernel
theorem xc126_502 : tt_cd 126 502 = (1, .iload 7, 2) := by decide +kernel
theorem xc126_504 : tt_cd 126 504 = (4, .bipush 96, 2) := by decide +kernel
theorem xc126_506 : tt_cd 126 506 = (2, .iadd, 1) := by decide +kernel
theorem xc126_507 : tt_cd 126 507 = (1, .aload_n 0, 1) := by decide +kernel
theorem xc126_508 : tt_cd 126 508 = (3, .getfield 394, 3) := by decide +kernel
theorem xc126_511 : tt_cd 126 511 = (1, .iload 5, 2) := by decide +kernel
theorem xc126_513 : tt_cd 126 513 = (3, .iaload, 1) := by decide +kernel
theorem xc126_514 : tt_cd 126 514 = (10, .invokestatic 144, 3) := by decide +kernel
theorem xc126_517 : tt_cd 126 517 = (1, .aload_n 0, 1) := by decide +kernel
theorem xc126_518 : tt_cd 126 518 = (3, .getfield 382, 3) := by decide +kernel
theorem xc126_521 : tt_cd 126 521 = (1, .iload 7, 2) := by decide +kernel
theorem xc126_523 : tt_cd 126 523 = (4, .bipush 100, 2) := by decide +kernel
theorem xc126_525 : tt_cd 126 525 = (2, .iadd, 1) := by decide +kernel
theorem xc126_526 : tt_cd 126 526 = (1, .aload_n 0, 1) := by decide +kernel
theorem xc126_527 : tt_cd 126 527 = (3, .getfield 397, 3) := by decide +kernel
theorem xc126_530 : tt_cd 126 530 = (1, .iload 5, 2) := by decide +kernel
theorem xc126_532 : tt_cd 126 532 = (3, .iaload, 1) := by decide +kernel
theorem xc126_533 : tt_cd 126 533 = (2, .i2b, 1) := by decide +kernel
theorem xc126_534 : tt_cd 126 534 = (6, .bastore, 1) := by decide +kernel
theorem xc126_535 : tt_cd 126 535 = (1, .aload_n 0, 1) := by decide +kernel
theorem xc126_536 : tt_cd 126 536 = (3, .getfield 400, 3) := by decide +kernel
theorem xc126_539 : tt_cd 126 539 = (1, .iload 5, 2) := by decide +kernel
theorem xc126_541 : tt_cd 126 541 = (2, .iconst (-1), 1) := by decide +kernel
theorem xc126_542 : tt_cd 126 542 = (6, .iastore, 1) := by decide +kernel
theorem xc126_543 : tt_cd 126 543 = (2, .iconst 0, 1) := by decide +kernel
theorem xc126_544 : tt_cd 126 544 = (1, .istore 8, 2) := by decide +kernel
theorem xc135_0 : tt_cd 135 0 = (1, .aload_n 0, 1) := by decide +kernel
theorem xc135_1 : tt_cd 135 1 = (2, .iconst 0, 1) := by decide +kernel
theorem xc135_2 : tt_cd 135 2 = (6, .putfield 1, 3) := by decide +kernel
theorem xf135_1 : tt_fl 135 1 = (1, 0, 0) := by decide +kernel
theorem xc135_5 : tt_cd 135 5 = (1, .aload_n 0, 1) := by decide +kernel
theorem xc135_6 : tt_cd 135 6 = (1, .iload_n 1, 1) := by decide +kernel
theorem xc135_7 : tt_cd 135 7 = (10, .invokevirtual 662, 3) := by decide +kernel
theorem xm135_662 : tt_ml 135 662 = (3, 136, 1) := by decide +kernel
theorem xc135_10 : tt_cd 135 10 = (5, .ifCond .ne 15, 3) := by decide +kernel
theorem xc135_13 : tt_cd 135 13 = (1, .iload_n 2, 1) := by decide +kernel
theorem xc135_14 : tt_cd 135 14 = (2, .i2l, 1) := by decide +kernel
theorem xc135_15 : tt_cd 135 15 = (2, .lconst 0, 1) := by decide +kernel
theorem xc135_16 : tt_cd 135 16 = (4, .ldc2_w 665, 3) := by decide +kernel
theorem xk135_665 : tt_kc 135 665 = (2, 1000) := by decide +kernel
theorem xc135_19 : tt_cd 135 19 = (10, .invokestatic 147, 3) := by decide +kernel
theorem xm135_147 : tt_ml 135 147 = (1, 98, 3) := by decide +kernel
theorem xc135_22 : tt_cd 135 22 = (5, .ifCond .ne 5, 3) := by decide +kernel
theorem xc135_27 : tt_cd 135 27 = (1, .aload_n 0, 1) := by decide +kernel
theorem xc135_28 : tt_cd 135 28 = (3, .getfield 632, 3) := by decide +kernel
theorem xf135_632 : tt_fl 135 632 = (1, 0, 49) := by decide +kernel
theorem xc135_31 : tt_cd 135 31 = (4, .bipush 40, 2) := by decide +kernel
theorem xc135_33 : tt_cd 135 33 = (5, .if_icmp .ne 6, 3) := by decide +kernel
theorem xc135_39 : tt_cd 135 39 = (1, .aload_n 0, 1) := by decide +kernel
theorem xc135_40 : tt_cd 135 40 = (3, .getfield 138, 3) := by decide +kernel
theorem xf135_138 : tt_fl 135 138 = (1, 0, 17) := by decide +kernel
theorem xc135_43 : tt_cd 135 43 = (4, .bipush 20, 2) := by decide +kernel
theorem xc135_45 : tt_cd 135 45 = (5, .if_icmp .lt 7, 3) := by decide +kernel
theorem xc135_52 : tt_cd 135 52 = (2, .iconst 0, 1) := by decide +kernel
theorem xc135_53 : tt_cd 135 53 = (1, .istore_n 3, 1) := by decide +kernel
theorem xl135 : tt_mL 135 = 5 := by decide +kernel
theorem xc135_54 : tt_cd 135 54 = (1, .aload_n 0, 1) := by decide +kernel
theorem xc135_55 : tt_cd 135 55 = (1, .iload_n 1, 1) := by decide +kernel
theorem xc135_56 : tt_cd 135 56 = (1, .iload_n 2, 1) := by decide +kernel
theorem xc135_57 : tt_cd 135 57 = (1, .iload_n 3, 1) := by decide +kernel
theorem xc135_58 : tt_cd 135 58 = (5, .ifCond .eq 10, 3) := by decide +kernel
theorem xc135_68 : tt_cd 135 68 = (1, .aload_n 0, 1) := by decide +kernel
theorem xc135_69 : tt_cd 135 69 = (3, .getfield 427, 3) := by decide +kernel
theorem xf135_427 : tt_fl 135 427 = (1, 0, 54) := by decide +kernel
theorem xc135_72 : tt_cd 135 72 = (2, .iconst 0, 1) := by decide +kernel
theorem xc135_73 : tt_cd 135 73 = (10, .invokevirtual 578, 3) := by decide +kernel
theorem xm135_578 : tt_ml 135 578 = (3, 126, 4) := by decide +kernel
theorem xi126 : tt_mci 126 = 0 := by decide +kernel
theorem xc135_76 : tt_cd 135 76 = (1, .istore 4, 2) := by decide +kernel
theorem xc135_78 : tt_cd 135 78 = (1, .aload_n 0, 1) := by decide +kernel
theorem xc135_79 : tt_cd 135 79 = (1, .iload_n 3, 1) := by decide +kernel
theorem xc135_80 : tt_cd 135 80 = (5, .ifCond .eq 7, 3) := by decide +kernel
theorem xc135_87 : tt_cd 135 87 = (1, .aload_n 0, 1) := by decide +kernel
theorem xc135_88 : tt_cd 135 88 = (3, .getfield 138, 3) := by decide +kernel
theorem xc135_91 : tt_cd 135 91 = (6, .putfield 138, 3) := by decide +kernel
theorem xt0_17 : tt_fty 0 17 = .int := by decide +kernel
theorem xn0_17 : tt_ffin 0 17 = false := by decide +kernel
theorem xc135_94 : tt_cd 135 94 = (1, .iload 4, 2) := by decide +kernel
theorem xc135_96 : tt_cd 135 96 = (9, .ireturn, 1) := by decide +kernel
theorem xr135 : tt_mr 135 = 1 := by decide +kernel
/-- numbers of the second block -/
def f2 (j : Nat) : Nat := if j = 0 then 1 else 48
theorem zh_1 : ((List.range 32).all (fun j => Nat.beq (bk_D (hs_2 (fun j => mv_rd 32 z_M1 j) 28) j) (mv_rd 32 z_H1 (32 + j)))) = true := by decide +kernel
theorem zh_2 : ((List.range 32).all (fun j => Nat.beq (bk_D (hs_2 f2 2) j) (mv_rd 32 z_H1 (64 + j)))) = true := by decide +kernel
def wo_4b (a b c d : Nat) : Nat := mo_or (mo_shl (mo_or (mo_shl (mo_or (mo_shl (mo_or 0 (mo_and a 255)) 8) (mo_and b 255)) 8) (mo_and c 255)) 8) (mo_and d 255)
theorem wo_0_eq (T : Nat) : wo_0 T = wo_4b (mv_rd 32 T 0) (mv_rd 32 T 1) (mv_rd 32 T 2) (mv_rd 32 T 3) := rfl
def zh_h : Nat := hm (fun j => mv_rd 32 z_H1 j) (fun _ => 4294967295) 20
theorem zh_Vn : wo_4b (bk_D zh_h 0) (bk_D zh_h 1) (bk_D zh_h 2) (bk_D zh_h 3) = 1634279031 := by decide +kernel
theorem zh_V : ∀ T : Nat, (∀ j, j < 32 → mv_rd 32 T j = bk_D (hm (fun j => mv_rd 32 z_H1 j) (fun _ => 4294967295) 20) j) → wo_0 T = 1634279031 := by
  intro T h
  rw [wo_0_eq, h 0 (by decide), h 1 (by decide), h 2 (by decide), h 3 (by decide)]
  exact zh_Vn
theorem zh_a {p : Nat → Bool} {N : Nat} (h : (List.range N).all p = true) {j : Nat} (hj : j < N) : p j = true := List.all_eq_true.mp h j (List.mem_range.mpr hj)
section QB
variable {n : Nat} {pl : Nat → Nat} {w0 w : mv_T 10} {X0 Pc Wd Vv St Af Mi Hd Bi Bf Hg Tm Bo Wk Pn Bs Mt Pst Ppl Psz Bb Pid So Fn Fc Fl Fs Ou Ly No Bu th up lp sc ba : Nat}
def mtT (Mt Bu : Nat) : Nat := mo_T (pw_4 (mv_wr 32 (mv_wr 32 (mv_wr 32 (mv_wr 32 Mt 0 (mn_b 0)) 1 (mn_b 4294967296)) 2 (mn_b 4294967297)) 3 (mn_b 1)) 4 1000) 8 Bu 0 20
theorem zm_8 : ((List.range 20).all (fun j => Nat.beq (mv_rd 32 z_M1 (8 + j)) 4294967295)) = true := by decide +kernel
theorem mt_rd (hBu : ∀ j, j < 20 → mv_rd 32 Bu j = 4294967295) : ∀ j, j < 28 → mv_rd 32 (mtT Mt Bu) (0 + j) = mv_rd 32 z_M1 j := by
  intro j hj
  rw [Nat.zero_add]
  unfold mtT
  rw [mo_T_rd]
  by_cases h : 8 ≤ j
  · have e := Nat.eq_of_beq_eq_true (zh_a zm_8 (show j - 8 < 20 by omega))
    rw [show 8 + (j - 8) = j by omega] at e
    rw [if_pos (by omega), Nat.zero_add, hBu _ (by omega), e]
    decide
  · rw [if_neg (by omega), pw_rd]
    rcases (show j = 0 ∨ j = 1 ∨ j = 2 ∨ j = 3 ∨ j = 4 ∨ j = 5 ∨ j = 6 ∨ j = 7 by omega) with rfl | rfl | rfl | rfl | rfl | rfl | rfl | rfl
    · rw [if_neg (by decide), mv_rd_ne (by decide), mv_rd_ne (by decide), mv_rd_ne (by decide), mv_rd_self]; decide
    · rw [if_neg (by decide), mv_rd_ne (by decide), mv_rd_ne (by decide), mv_rd_self]; decide
    · rw [if_neg (by decide), mv_rd_ne (by decide), mv_rd_self]; decide
    · rw [if_neg (by decide), mv_rd_self]; decide
    · rw [if_pos (by decide)]; decide
    · rw [if_pos (by decide)]; decide
    · rw [if_pos (by decide)]; decide
    · rw [if_pos (by decide)]; decide
theorem zm_b : ((List.range 28).all (fun j => Nat.beq (mn_b (mv_rd 32 z_M1 j) % 2 ^ 32) (mv_rd 32 z_M1 j))) = true := by decide +kernel
theorem bb_g (hBu : ∀ j, j < 20 → mv_rd 32 Bu j = 4294967295) : ∀ j, j < 28 → mv_rd 32 (mo_T Bb 1900 (mtT Mt Bu) 0 28) (1900 + j) = mv_rd 32 z_M1 j := by
  intro j hj
  rw [mo_T_rd, if_pos (by omega), show 1900 + j - 1900 = j by omega, mt_rd hBu j hj]
  exact Nat.eq_of_beq_eq_true (zh_a zm_b hj)
theorem bb_0 (hBu : ∀ j, j < 20 → mv_rd 32 Bu j = 4294967295) : mv_rd 32 (mo_T Bb 1900 (mtT Mt Bu) 0 28) 1900 = 0 := (bb_g hBu 0 (by decide)).trans (by decide)
theorem bb_3 (hBu : ∀ j, j < 20 → mv_rd 32 Bu j = 4294967295) : mv_rd 32 (mo_T Bb 1900 (mtT Mt Bu) 0 28) 1903 = 1 := (bb_g hBu 3 (by decide)).trans (by decide)
theorem bb_rd (hBu : ∀ j, j < 20 → mv_rd 32 Bu j = 4294967295) : ∀ j, j < 20 → mv_rd 32 (mo_T So 0 (mo_T Bb 1900 (mtT Mt Bu) 0 28) 1908 20) (0 + j) = 4294967295 := by
  intro j hj
  have e := Nat.eq_of_beq_eq_true (zh_a zm_8 hj)
  rw [mo_T_rd, if_pos (by omega), show 1908 + (0 + j - 0) = 1900 + (8 + j) by omega, bb_g hBu _ (by omega), e]
  decide
def hc (Hd Bi : Nat) : Nat → Nat
  | 0 => Hd
  | k + 1 => mv_wr 32 (hc Hd Bi k) (105 + k) (mn_b (mv_rd 32 Bi k))
theorem hc_r (Hd Bi : Nat) : ∀ k j, mv_rd 32 (hc Hd Bi k) j = if 105 ≤ j ∧ j < 105 + k then mn_b (mv_rd 32 Bi (j - 105)) % 2 ^ 32 else mv_rd 32 Hd j
  | 0, j => by rw [if_neg (by omega)]; rfl
  | k + 1, j => by
    show mv_rd 32 (mv_wr 32 (hc Hd Bi k) (105 + k) (mn_b (mv_rd 32 Bi k))) j = _
    rw [mv_rd_wr]
    by_cases e : j = 105 + k
    · rw [if_pos e, if_pos (by omega), show j - 105 = k by omega]
    · rw [if_neg e, hc_r Hd Bi k j]
      by_cases h : 105 ≤ j ∧ j < 105 + k
      · rw [if_pos h, if_pos (by omega)]
      · rw [if_neg h, if_neg (by omega)]
theorem zm_h : ((List.range 96).all (fun j => Nat.beq (mn_b (mv_rd 32 z_H1 j) % 2 ^ 32) (mv_rd 32 z_H1 j))) = true := by decide +kernel
theorem hc_rd (hId : ∀ j, j < 32 → mv_rd 32 Bi j = mv_rd 32 z_H1 j) : ∀ j, j < 32 → mv_rd 32 (hc Hd Bi 32) (105 + j) = mv_rd 32 z_H1 j := by
  intro j hj
  rw [hc_r, if_pos (by omega), show 105 + j - 105 = j by omega, hId j hj]
  exact Nat.eq_of_beq_eq_true (zh_a zm_h (show j < 96 by omega))
theorem f2_ok : ∀ j, j < 2 → mv_rd 32 (ff Fl) (80 + j) = f2 j := by
  intro j hj
  rcases (show j = 0 ∨ j = 1 by omega) with rfl | rfl
  · exact ff_0 Fl
  · exact ff_1 Fl
/-- the second block's header but for its NONCE -/
theorem hh_g {sec Tp T3 : Nat} (hsec : sec ≤ 1000) (hId : ∀ j, j < 32 → mv_rd 32 Bi j = mv_rd 32 z_H1 j) (hTp : ∀ j, j < 32 → mv_rd 32 Tp (128 + j) = bk_D (hs_2 (fun j => mv_rd 32 z_M1 j) 28) j) (hT3 : ∀ j, mv_rd 32 T3 j = if 169 ≤ j ∧ j < 169 + 32 then bk_D (hs_2 f2 2) (j - 169) else mv_rd 32 (mo_T (hc Hd Bi 32) 137 (mo_T Ly 0 Tp 128 32) 0 32) j) : ∀ j, j < 101 → mv_rd 32 (mv_wr 32 (pw_4 T3 201 sec) 205 (mn_b 4294967298)) (105 + j) = hx sec j := by
  intro j hj
  rw [mv_rd_wr]
  unfold hx
  by_cases h100 : j = 100
  · subst h100
    rw [if_pos rfl, if_neg (by decide), if_neg (by decide)]
    decide
  rw [if_neg (by omega), pw_rd]
  by_cases h96 : 96 ≤ j
  · rw [if_pos (by omega), if_neg (by omega), if_pos (by omega), show 24 - 8 * (105 + j - 201) = 24 - 8 * (j - 96) by omega]
  rw [if_neg (by omega), if_pos (by omega), hT3]
  by_cases h64 : 64 ≤ j
  · have e := Nat.eq_of_beq_eq_true (zh_a zh_2 (show j - 64 < 32 by omega))
    rw [if_pos (by omega), show 105 + j - 169 = j - 64 by omega, e, show 64 + (j - 64) = j by omega]
  rw [if_neg (by omega), mo_T_rd]
  by_cases h32 : 32 ≤ j
  · have e := Nat.eq_of_beq_eq_true (zh_a zh_1 (show j - 32 < 32 by omega))
    have e2 := Nat.eq_of_beq_eq_true (zh_a zm_h (show j < 96 by omega))
    rw [if_pos (by omega), show 0 + (105 + j - 137) = j - 32 by omega, mo_T_rd, if_pos (by omega), show 128 + (j - 32 - 0) = 128 + (j - 32) by omega, hTp _ (by omega), e, show 32 + (j - 32) = j by omega, e2, e2]
  rw [if_neg (by omega)]
  exact hc_rd hId j (by omega)
theorem z_pr_all {sec : Nat} (h : sec ≤ 1000) : z_pr sec = true := by
  rcases Nat.lt_or_ge sec 91 with z0 | z0
  · have := zh_a z_n0 (show sec - 0 < 91 by omega)
    rwa [show 0 + (sec - 0) = sec by omega] at this
  rcases Nat.lt_or_ge sec 182 with z1 | z1
  · have := zh_a z_n1 (show sec - 91 < 91 by omega)
    rwa [show 91 + (sec - 91) = sec by omega] at this
  rcases Nat.lt_or_ge sec 273 with z2 | z2
  · have := zh_a z_n2 (show sec - 182 < 91 by omega)
    rwa [show 182 + (sec - 182) = sec by omega] at this
  rcases Nat.lt_or_ge sec 364 with z3 | z3
  · have := zh_a z_n3 (show sec - 273 < 91 by omega)
    rwa [show 273 + (sec - 273) = sec by omega] at this
  rcases Nat.lt_or_ge sec 455 with z4 | z4
  · have := zh_a z_n4 (show sec - 364 < 91 by omega)
    rwa [show 364 + (sec - 364) = sec by omega] at this
  rcases Nat.lt_or_ge sec 546 with z5 | z5
  · have := zh_a z_n5 (show sec - 455 < 91 by omega)
    rwa [show 455 + (sec - 455) = sec by omega] at this
  rcases Nat.lt_or_ge sec 637 with z6 | z6
  · have := zh_a z_n6 (show sec - 546 < 91 by omega)
    rwa [show 546 + (sec - 546) = sec by omega] at this
  rcases Nat.lt_or_ge sec 728 with z7 | z7
  · have := zh_a z_n7 (show sec - 637 < 91 by omega)
    rwa [show 637 + (sec - 637) = sec by omega] at this
  rcases Nat.lt_or_ge sec 819 with z8 | z8
  · have := zh_a z_n8 (show sec - 728 < 91 by omega)
    rwa [show 728 + (sec - 728) = sec by omega] at this
  rcases Nat.lt_or_ge sec 910 with z9 | z9
  · have := zh_a z_n9 (show sec - 819 < 91 by omega)
    rwa [show 819 + (sec - 819) = sec by omega] at this
  rcases Nat.lt_or_ge sec 1001 with z10 | z10
  · have := zh_a z_n10 (show sec - 910 < 91 by omega)
    rwa [show 910 + (sec - 910) = sec by omega] at this
  exact absurd h (by omega)
theorem wq_build (hw : wh 32 pl w0 w [(0, 0, 107, X0), (1, 1, 64, Pc), (1, 0, 64, mc_K), (1, 0, 64, Wd), (1, 0, 8, Vv), (1, 0, 8, St), (1, 0, 8, Af), (1, 1, 32, Mi), (1, 1, 4200, Hd), (1, 1, 1280, Bi), (1, 0, 40, Bf), (1, 0, 40, Hg), (1, 0, 40, Tm), (1, 0, 40, Bo), (1, 0, 40, Wk), (1, 0, 40, Pn), (1, 0, 40, Bs), (1, 1, 28, Mt), (1, 0, 160, Pst), (1, 0, 160, Ppl), (1, 0, 160, Psz), (1, 1, 76000, Bb), (1, 1, 5120, Pid), (1, 1, 600, So), (1, 0, 960, Fn), (1, 0, 40, Fc), (1, 1, 3200, Fl), (1, 0, 40, Fs), (1, 1, 32, Ou), (1, 1, 2400, Ly), (1, 0, 40, No), (1, 1, 20, Bu)]) (hX0 : fh X0 jQ [(0, th, 0), (2, pl 1, 0), (2, pl 2, 0), (2, pl 3, 0), (2, pl 4, 0), (2, pl 5, 0), (2, pl 6, 0), (2, pl 7, 0), (0, up, 0), (1, lp, 0), (2, pl 8, 0), (2, pl 9, 0), (2, pl 10, 0), (2, pl 11, 0), (2, pl 12, 0), (2, pl 13, 0), (2, pl 14, 0), (2, pl 15, 0), (2, pl 16, 0), (2, pl 17, 0), (2, pl 18, 0), (2, pl 19, 0), (2, pl 20, 0), (2, pl 21, 0), (2, pl 22, 0), (2, pl 23, 0), (2, pl 24, 0), (2, pl 25, 0), (2, pl 26, 0), (2, pl 27, 0), (2, pl 28, 0), (2, pl 29, 0), (2, pl 30, 0), (2, pl 31, 0), (0, 1, 0), (0, 0, 0), (0, sc, 0), (0, ba, 0), (0, 0, 0)]) {sec : Nat} (hsec : sec ≤ 1000) (hA : ∀ i, i < 8 → mv_rd 32 Af i = mv_rd 32 hs_S0 i) (hh0 : mv_rd 32 Hg 0 = 0) (ht0 : mv_rd 32 Tm 0 = 0) (hb00 : mv_rd 32 Bo 0 = 2) (hw0 : mv_rd 32 Wk 0 = 4) (hBu : ∀ j, j < 20 → mv_rd 32 Bu j = 4294967295) (hId : ∀ j, j < 32 → mv_rd 32 Bi j = mv_rd 32 z_H1 j) : sy_D 126 n 8 300 [(2, pl 0, 0), (0, 0, 0), (0, sec, 0), (2, pl 31, 0), (0, 0, 0)] w (fun ret w' => ret = [(0, 1, 0)] ∧ ∃ X0 Pc Wd Vv St Af Mi Hd Bi Bf Hg Tm Bo Wk Pn Bs Mt Pst Ppl Psz Bb Pid So Fn Fc Fl Fs Ou Ly No Bu th up lp sc ba : Nat, wh 32 pl w0 w' [(0, 0, 107, X0), (1, 1, 64, Pc), (1, 0, 64, mc_K), (1, 0, 64, Wd), (1, 0, 8, Vv), (1, 0, 8, St), (1, 0, 8, Af), (1, 1, 32, Mi), (1, 1, 4200, Hd), (1, 1, 1280, Bi), (1, 0, 40, Bf), (1, 0, 40, Hg), (1, 0, 40, Tm), (1, 0, 40, Bo), (1, 0, 40, Wk), (1, 0, 40, Pn), (1, 0, 40, Bs), (1, 1, 28, Mt), (1, 0, 160, Pst), (1, 0, 160, Ppl), (1, 0, 160, Psz), (1, 1, 76000, Bb), (1, 1, 5120, Pid), (1, 1, 600, So), (1, 0, 960, Fn), (1, 0, 40, Fc), (1, 1, 3200, Fl), (1, 0, 40, Fs), (1, 1, 32, Ou), (1, 1, 2400, Ly), (1, 0, 40, No), (1, 1, 20, Bu)] ∧ fh X0 jQ [(0, th, 0), (2, pl 1, 0), (2, pl 2, 0), (2, pl 3, 0), (2, pl 4, 0), (2, pl 5, 0), (2, pl 6, 0), (2, pl 7, 0), (0, up, 0), (1, lp, 0), (2, pl 8, 0), (2, pl 9, 0), (2, pl 10, 0), (2, pl 11, 0), (2, pl 12, 0), (2, pl 13, 0), (2, pl 14, 0), (2, pl 15, 0), (2, pl 16, 0), (2, pl 17, 0), (2, pl 18, 0), (2, pl 19, 0), (2, pl 20, 0), (2, pl 21, 0), (2, pl 22, 0), (2, pl 23, 0), (2, pl 24, 0), (2, pl 25, 0), (2, pl 26, 0), (2, pl 27, 0), (2, pl 28, 0), (2, pl 29, 0), (2, pl 30, 0), (2, pl 31, 0), (0, 2, 0), (0, 0, 0), (0, sc, 0), (0, ba, 0), (0, 0, 0)]) := by
  refine sy_Dof (us := [(255, 0, 0), (255, 0, 0), (255, 0, 0), (255, 0, 0)]) (sy_oks_cons (sy_ok2 (wh_lt hw 0 (by first | decide | assumption))) (sy_oks_cons (sy_ok0 (by first | decide | assumption | omega | exact mo_rd_lt _ _ | exact mo_add_lt _ _ | exact mo_sub_lt _ _ | exact mo_mul_lt _ _ | exact mo_shl_lt _ _ | exact mo_ushr_lt _ _ | exact mo_or_lt (by decide) (mo_and_lt (mo_rd_lt _ _)) | exact mo_or_lt (mo_shl_lt _ _) (mo_and_lt (mo_rd_lt _ _)))) (sy_oks_cons (sy_ok0 (by first | decide | assumption | omega | exact mo_rd_lt _ _ | exact mo_add_lt _ _ | exact mo_sub_lt _ _ | exact mo_mul_lt _ _ | exact mo_shl_lt _ _ | exact mo_ushr_lt _ _ | exact mo_or_lt (by decide) (mo_and_lt (mo_rd_lt _ _)) | exact mo_or_lt (mo_shl_lt _ _) (mo_and_lt (mo_rd_lt _ _)))) (sy_oks_cons (sy_ok2 (wh_lt hw 31 (by first | decide | assumption))) (sy_oks_cons (sy_ok0 (by first | decide | assumption | omega | exact mo_rd_lt _ _ | exact mo_add_lt _ _ | exact mo_sub_lt _ _ | exact mo_mul_lt _ _ | exact mo_shl_lt _ _ | exact mo_ushr_lt _ _ | exact mo_or_lt (by decide) (mo_and_lt (mo_rd_lt _ _)) | exact mo_or_lt (mo_shl_lt _ _) (mo_and_lt (mo_rd_lt _ _)))) sy_oks_nil))))) rfl rfl ?_
  show sy_F 126 n 8 300 0 [(2, pl 0, 0), (0, 0, 0), (0, sec, 0), (2, pl 31, 0), (0, 0, 0), (255, 0, 0), (255, 0, 0), (255, 0, 0), (255, 0, 0)] [] w _
  refine sy_Fs (sy_aldn xc126_0 rfl rfl sy_refl) ?_
  refine sy_Fs (sy_gf xc126_1 xf126_632 rfl (wh_at hw 0 rfl) rfl (fh_at hX0 34 rfl rfl) sy_refl) ?_
  refine sy_Fs (sx_ist (j := 5) (ls' := [(2, pl 0, 0), (0, 0, 0), (0, sec, 0), (2, pl 31, 0), (0, 0, 0), (0, 1, 0), (255, 0, 0), (255, 0, 0), (255, 0, 0)]) xc126_4 rfl (sy_ok0 (by first | decide | assumption | omega | exact mo_rd_lt _ _ | exact mo_add_lt _ _ | exact mo_sub_lt _ _ | exact mo_mul_lt _ _ | exact mo_shl_lt _ _ | exact mo_ushr_lt _ _ | exact mo_or_lt (by decide) (mo_and_lt (mo_rd_lt _ _)) | exact mo_or_lt (mo_shl_lt _ _) (mo_and_lt (mo_rd_lt _ _)))) (by rw [xl126]; rfl) rfl rfl) ?_
  refine sy_Fs (sy_aldn xc126_6 rfl rfl sy_refl) ?_
  refine sy_Fs (sy_gf xc126_7 xf126_388 rfl (wh_at hw 0 rfl) rfl (fh_at hX0 12 rfl rfl) sy_refl) ?_
  refine sy_Fs (sy_ild xc126_10 rfl rfl sy_refl) ?_
  refine sy_Fs (sy_ildn xc126_12 rfl rfl sy_refl) ?_
  refine sy_Fw (i := 10) (x := (1, 0, 40, (mv_wr 32 Bf 1 0))) hw (by decide) (sy_ias (i := 1) xc126_13 (wh_at hw 10 rfl) rfl (by decide) (by decide) rfl sy_refl) ?_
  intro w hw
  simp only [List.set_cons_zero, List.set_cons_succ] at hw
  refine sy_Fs (sy_aldn xc126_14 rfl rfl sy_refl) ?_
  refine sy_Fs (sy_gf xc126_15 xf126_391 rfl (wh_at hw 0 rfl) rfl (fh_at hX0 13 rfl rfl) sy_refl) ?_
  refine sy_Fs (sy_ild xc126_18 rfl rfl sy_refl) ?_
  refine sy_Fs (sy_ildn xc126_20 rfl rfl sy_refl) ?_
  refine sy_Fs (sy_ifge_t (pc' := 28) xc126_21 (by decide) (by decide) (by decide) sy_refl) ?_
  refine sy_Fs (sy_aldn xc126_28 rfl rfl sy_refl) ?_
  refine sy_Fs (sy_gf xc126_29 xf126_391 rfl (wh_at hw 0 rfl) rfl (fh_at hX0 13 rfl rfl) sy_refl) ?_
  refine sy_Fs (sy_ildn xc126_32 rfl rfl sy_refl) ?_
  refine sy_Fs (sx_ial (z := 0) xc126_33 (wh_at hw 11 rfl) (by decide) (by decide) hh0) ?_
  refine sy_Fs (sy_iconst (v := 1) xc126_34 (by decide) sy_refl) ?_
  refine sy_Fs (sx_iadd (z := 1) xc126_35 (by decide)) ?_
  refine sy_Fw (i := 11) (x := (1, 0, 40, (mv_wr 32 Hg 1 1))) hw (by decide) (sy_ias (i := 1) xc126_36 (wh_at hw 11 rfl) rfl (by decide) (by decide) rfl sy_refl) ?_
  intro w hw
  simp only [List.set_cons_zero, List.set_cons_succ] at hw
  refine sy_Fs (sy_aldn xc126_37 rfl rfl sy_refl) ?_
  refine sy_Fs (sy_gf xc126_38 xf126_394 rfl (wh_at hw 0 rfl) rfl (fh_at hX0 14 rfl rfl) sy_refl) ?_
  refine sy_Fs (sy_ild xc126_41 rfl rfl sy_refl) ?_
  refine sy_Fs (sy_ildn xc126_43 rfl rfl sy_refl) ?_
  refine sy_Fs (sy_ifge_t (pc' := 51) xc126_44 (by decide) (by decide) (by decide) sy_refl) ?_
  refine sy_Fs (sy_aldn xc126_51 rfl rfl sy_refl) ?_
  refine sy_Fs (sy_gf xc126_52 xf126_394 rfl (wh_at hw 0 rfl) rfl (fh_at hX0 14 rfl rfl) sy_refl) ?_
  refine sy_Fs (sy_ildn xc126_55 rfl rfl sy_refl) ?_
  refine sy_Fs (sx_ial (z := 0) xc126_56 (wh_at hw 12 rfl) (by decide) (by decide) ht0) ?_
  refine sy_Fs (sy_ildn xc126_57 rfl rfl sy_refl) ?_
  refine sy_Fs (sx_iadd (z := sec) xc126_58 (by unfold mo_add; omega)) ?_
  refine sy_Fw (i := 12) (x := (1, 0, 40, (mv_wr 32 Tm 1 sec))) hw (by decide) (sy_ias (i := 1) xc126_59 (wh_at hw 12 rfl) rfl (by decide) (by decide) rfl sy_refl) ?_
  intro w hw
  simp only [List.set_cons_zero, List.set_cons_succ] at hw
  refine sy_Fs (sy_aldn xc126_60 rfl rfl sy_refl) ?_
  refine sy_Fs (sy_gf xc126_61 xf126_397 rfl (wh_at hw 0 rfl) rfl (fh_at hX0 15 rfl rfl) sy_refl) ?_
  refine sy_Fs (sy_ild xc126_64 rfl rfl sy_refl) ?_
  refine sy_Fs (sy_ildn xc126_66 rfl rfl sy_refl) ?_
  refine sy_Fs (sy_ifge_t (pc' := 74) xc126_67 (by decide) (by decide) (by decide) sy_refl) ?_
  refine sy_Fs (sy_aldn xc126_74 rfl rfl sy_refl) ?_
  refine sy_Fs (sy_gf xc126_75 xf126_391 rfl (wh_at hw 0 rfl) rfl (fh_at hX0 13 rfl rfl) sy_refl) ?_
  refine sy_Fs (sy_ild xc126_78 rfl rfl sy_refl) ?_
  refine sy_Fs (sx_ial (z := 1) xc126_80 (wh_at hw 11 rfl) (by decide) (by decide) ((mv_rd_self 32 Hg 1 1).trans (by decide))) ?_
  refine sy_Fs (sy_iconst (v := 4) xc126_81 (by decide) sy_refl) ?_
  refine sy_Fs (sx_irem (z := 1) xc126_82 (by decide) (by decide)) ?_
  refine sy_Fs (sy_ifne_t (pc' := 123) xc126_83 (by decide) (by decide) (by decide) (by decide) sy_refl) ?_
  refine sy_Fs (sy_aldn xc126_123 rfl rfl sy_refl) ?_
  refine sy_Fs (sy_gf xc126_124 xf126_397 rfl (wh_at hw 0 rfl) rfl (fh_at hX0 15 rfl rfl) sy_refl) ?_
  refine sy_Fs (sy_ildn xc126_127 rfl rfl sy_refl) ?_
  refine sy_Fs (sx_ial (z := 2) xc126_128 (wh_at hw 13 rfl) (by decide) (by decide) hb00) ?_
  refine sy_Fw (i := 13) (x := (1, 0, 40, (mv_wr 32 Bo 1 2))) hw (by decide) (sy_ias (i := 1) xc126_129 (wh_at hw 13 rfl) rfl (by decide) (by decide) rfl sy_refl) ?_
  intro w hw
  simp only [List.set_cons_zero, List.set_cons_succ] at hw
  refine sy_Fs (sy_aldn xc126_130 rfl rfl sy_refl) ?_
  refine sy_Fs (sy_gf xc126_131 xf126_403 rfl (wh_at hw 0 rfl) rfl (fh_at hX0 16 rfl rfl) sy_refl) ?_
  refine sy_Fs (sy_ild xc126_134 rfl rfl sy_refl) ?_
  refine sy_Fs (sy_iconst (v := 1) xc126_136 (by decide) sy_refl) ?_
  refine sy_Fs (sy_aldn xc126_137 rfl rfl sy_refl) ?_
  refine sy_Fs (sy_gf xc126_138 xf126_397 rfl (wh_at hw 0 rfl) rfl (fh_at hX0 15 rfl rfl) sy_refl) ?_
  refine sy_Fs (sy_ild xc126_141 rfl rfl sy_refl) ?_
  refine sy_Fs (sx_ial (z := 2) xc126_143 (wh_at hw 13 rfl) (by decide) (by decide) ((mv_rd_self 32 Bo 1 2).trans (by decide))) ?_
  refine sy_Fs (sx_ishl (z := 4) xc126_144 (by decide)) ?_
  refine sy_Fs (sy_ildn xc126_145 rfl rfl sy_refl) ?_
  refine sy_Fs (sy_ifge_t (pc' := 153) xc126_146 (by decide) (by decide) (by decide) sy_refl) ?_
  refine sy_Fs (sy_aldn xc126_153 rfl rfl sy_refl) ?_
  refine sy_Fs (sy_gf xc126_154 xf126_403 rfl (wh_at hw 0 rfl) rfl (fh_at hX0 16 rfl rfl) sy_refl) ?_
  refine sy_Fs (sy_ildn xc126_157 rfl rfl sy_refl) ?_
  refine sy_Fs (sx_ial (z := 4) xc126_158 (wh_at hw 14 rfl) (by decide) (by decide) hw0) ?_
  refine sy_Fs (sx_iadd (z := 8) xc126_159 (by decide)) ?_
  refine sy_Fw (i := 14) (x := (1, 0, 40, (mv_wr 32 Wk 1 8))) hw (by decide) (sy_ias (i := 1) xc126_160 (wh_at hw 14 rfl) rfl (by decide) (by decide) rfl sy_refl) ?_
  intro w hw
  simp only [List.set_cons_zero, List.set_cons_succ] at hw
  refine sy_Fs (sy_aldn xc126_161 rfl rfl sy_refl) ?_
  refine sy_Fs (sy_gf xc126_162 xf126_376 rfl (wh_at hw 0 rfl) rfl (fh_at hX0 17 rfl rfl) sy_refl) ?_
  refine sy_Fs (sy_ild xc126_165 rfl rfl sy_refl) ?_
  refine sy_Fs (sy_iconst (v := 0) xc126_167 (by decide) sy_refl) ?_
  refine sy_Fw (i := 15) (x := (1, 0, 40, (mv_wr 32 Pn 1 0))) hw (by decide) (sy_ias (i := 1) xc126_168 (wh_at hw 15 rfl) rfl (by decide) (by decide) rfl sy_refl) ?_
  intro w hw
  simp only [List.set_cons_zero, List.set_cons_succ] at hw
  refine sy_Fs (sy_aldn xc126_169 rfl rfl sy_refl) ?_
  refine sy_Fs (sy_gf xc126_170 xf126_379 rfl (wh_at hw 0 rfl) rfl (fh_at hX0 18 rfl rfl) sy_refl) ?_
  refine sy_Fs (sy_ild xc126_173 rfl rfl sy_refl) ?_
  refine sy_Fs (sy_iconst (v := 0) xc126_175 (by decide) sy_refl) ?_
  refine sy_Fw (i := 16) (x := (1, 0, 40, (mv_wr 32 Bs 1 0))) hw (by decide) (sy_ias (i := 1) xc126_176 (wh_at hw 16 rfl) rfl (by decide) (by decide) rfl sy_refl) ?_
  intro w hw
  simp only [List.set_cons_zero, List.set_cons_succ] at hw
  refine sy_Fs (sy_aldn xc126_177 rfl rfl sy_refl) ?_
  refine sy_Fs (sy_gf xc126_178 xf126_433 rfl (wh_at hw 0 rfl) rfl (fh_at hX0 19 rfl rfl) sy_refl) ?_
  refine sy_Fs (sy_iconst (v := 0) xc126_181 (by decide) sy_refl) ?_
  refine sy_Fs (sy_iconst (v := 0) xc126_182 (by decide) sy_refl) ?_
  refine sy_Fw (i := 17) (x := (1, 1, 28, (mv_wr 32 Mt 0 (mn_b 0)))) hw (by decide) (sy_bas (i := 0) xc126_183 (wh_at hw 17 rfl) rfl (by decide) (by decide) rfl sy_refl) ?_
  intro w hw
  simp only [List.set_cons_zero, List.set_cons_succ] at hw
  refine sy_Fs (sy_aldn xc126_184 rfl rfl sy_refl) ?_
  refine sy_Fs (sy_gf xc126_185 xf126_433 rfl (wh_at hw 0 rfl) rfl (fh_at hX0 19 rfl rfl) sy_refl) ?_
  refine sy_Fs (sy_iconst (v := 1) xc126_188 (by decide) sy_refl) ?_
  refine sy_Fs (sy_ild xc126_189 rfl rfl sy_refl) ?_
  refine sy_Fs (sy_bipush (v := 8) xc126_191 (by decide) (by decide) sy_refl) ?_
  refine sy_Fs (sx_ishr (z := 0) xc126_193 (by decide)) ?_
  refine sy_Fs (sx_i2b (z := 4294967296) xc126_194 (by decide)) ?_
  refine sy_Fw (i := 17) (x := (1, 1, 28, (mv_wr 32 (mv_wr 32 Mt 0 (mn_b 0)) 1 (mn_b 4294967296)))) hw (by decide) (sy_bas (i := 1) xc126_195 (wh_at hw 17 rfl) rfl (by decide) (by decide) rfl sy_refl) ?_
  intro w hw
  simp only [List.set_cons_zero, List.set_cons_succ] at hw
  refine sy_Fs (sy_aldn xc126_196 rfl rfl sy_refl) ?_
  refine sy_Fs (sy_gf xc126_197 xf126_433 rfl (wh_at hw 0 rfl) rfl (fh_at hX0 19 rfl rfl) sy_refl) ?_
  refine sy_Fs (sy_iconst (v := 2) xc126_200 (by decide) sy_refl) ?_
  refine sy_Fs (sy_ild xc126_201 rfl rfl sy_refl) ?_
  refine sy_Fs (sx_i2b (z := 4294967297) xc126_203 (by decide)) ?_
  refine sy_Fw (i := 17) (x := (1, 1, 28, (mv_wr 32 (mv_wr 32 (mv_wr 32 Mt 0 (mn_b 0)) 1 (mn_b 4294967296)) 2 (mn_b 4294967297)))) hw (by decide) (sy_bas (i := 2) xc126_204 (wh_at hw 17 rfl) rfl (by decide) (by decide) rfl sy_refl) ?_
  intro w hw
  simp only [List.set_cons_zero, List.set_cons_succ] at hw
  refine sy_Fs (sy_aldn xc126_205 rfl rfl sy_refl) ?_
  refine sy_Fs (sy_gf xc126_206 xf126_433 rfl (wh_at hw 0 rfl) rfl (fh_at hX0 19 rfl rfl) sy_refl) ?_
  refine sy_Fs (sy_iconst (v := 3) xc126_209 (by decide) sy_refl) ?_
  refine sy_Fs (sy_iconst (v := 1) xc126_210 (by decide) sy_refl) ?_
  refine sy_Fw (i := 17) (x := (1, 1, 28, (mv_wr 32 (mv_wr 32 (mv_wr 32 (mv_wr 32 Mt 0 (mn_b 0)) 1 (mn_b 4294967296)) 2 (mn_b 4294967297)) 3 (mn_b 1)))) hw (by decide) (sy_bas (i := 3) xc126_211 (wh_at hw 17 rfl) rfl (by decide) (by decide) rfl sy_refl) ?_
  intro w hw
  simp only [List.set_cons_zero, List.set_cons_succ] at hw
  refine sy_Fs (sy_aldn xc126_212 rfl rfl sy_refl) ?_
  refine sy_Fs (sy_gf xc126_213 xf126_433 rfl (wh_at hw 0 rfl) rfl (fh_at hX0 19 rfl rfl) sy_refl) ?_
  refine sy_Fs (sy_iconst (v := 4) xc126_216 (by decide) sy_refl) ?_
  refine sy_Fs (sy_sipush (v := 1000) xc126_217 (by decide) (by decide) sy_refl) ?_
  refine sy_Fw (i := 17) (x := (1, 1, 28, (pw_4 (mv_wr 32 (mv_wr 32 (mv_wr 32 (mv_wr 32 Mt 0 (mn_b 0)) 1 (mn_b 4294967296)) 2 (mn_b 4294967297)) 3 (mn_b 1)) 4 1000))) hw (by decide) (sy_callG (kd := 1) (as := [(2, pl 17, 0), (0, 4, 0), (0, 1000, 0)]) (S0 := []) (ret := []) xc126_220 (sy_calS (as := [(2, pl 17, 0), (0, 4, 0), (0, 1000, 0)]) (S0 := []) xm126_144 rfl rfl) rfl rfl rfl rfl (sy_oka (sy_oks_cons (sy_ok2 (wh_lt hw 17 (by first | decide | assumption))) (sy_oks_cons (sy_ok0 (by first | decide | assumption | omega | exact mo_rd_lt _ _ | exact mo_add_lt _ _ | exact mo_sub_lt _ _ | exact mo_mul_lt _ _ | exact mo_shl_lt _ _ | exact mo_ushr_lt _ _ | exact mo_or_lt (by decide) (mo_and_lt (mo_rd_lt _ _)) | exact mo_or_lt (mo_shl_lt _ _) (mo_and_lt (mo_rd_lt _ _)))) (sy_oks_cons (sy_ok0 (by first | decide | assumption | omega | exact mo_rd_lt _ _ | exact mo_add_lt _ _ | exact mo_sub_lt _ _ | exact mo_mul_lt _ _ | exact mo_shl_lt _ _ | exact mo_ushr_lt _ _ | exact mo_or_lt (by decide) (mo_and_lt (mo_rd_lt _ _)) | exact mo_or_lt (mo_shl_lt _ _) (mo_and_lt (mo_rd_lt _ _)))) sy_oks_nil))) rfl xl96) (pw_run (wh_lt hw 17 (by first | decide | assumption)) (wh_at hw 17 rfl) (by first | decide | assumption | omega) (by first | decide | assumption | omega) (by first | decide | assumption | omega | exact mo_rd_lt _ _ | exact mo_add_lt _ _ | exact mo_sub_lt _ _ | exact mo_mul_lt _ _ | exact mo_shl_lt _ _ | exact mo_ushr_lt _ _ | exact mo_or_lt (by decide) (mo_and_lt (mo_rd_lt _ _)) | exact mo_or_lt (mo_shl_lt _ _) (mo_and_lt (mo_rd_lt _ _)))) (by decide) (by rw [xl96]; decide) sy_refl) ?_
  intro w hw
  simp only [List.set_cons_zero, List.set_cons_succ] at hw
  refine sy_Fs (sy_aldn xc126_223 rfl rfl sy_refl) ?_
  refine sy_Fs (sy_ild xc126_224 rfl rfl sy_refl) ?_
  refine sy_Fs (sy_aldn xc126_226 rfl rfl sy_refl) ?_
  refine sy_Fs (sy_gf xc126_227 xf126_433 rfl (wh_at hw 0 rfl) rfl (fh_at hX0 19 rfl rfl) sy_refl) ?_
  refine sy_Fs (sy_bipush (v := 8) xc126_230 (by decide) (by decide) sy_refl) ?_
  refine sy_Fs (sy_bipush (v := 20) xc126_232 (by decide) (by decide) sy_refl) ?_
  refine sy_Fw (i := 17) (x := (1, 1, 28, (mtT Mt Bu))) hw (by decide) (sy_callG (kd := 1) (as := [(2, pl 31, 0), (0, 0, 0), (2, pl 17, 0), (0, 8, 0), (0, 20, 0)]) (S0 := []) (ret := []) xc126_234 (sy_calS (as := [(2, pl 31, 0), (0, 0, 0), (2, pl 17, 0), (0, 8, 0), (0, 20, 0)]) (S0 := []) xm126_184 rfl rfl) rfl rfl rfl rfl (sy_oka (sy_oks_cons (sy_ok2 (wh_lt hw 31 (by first | decide | assumption))) (sy_oks_cons (sy_ok0 (by first | decide | assumption | omega | exact mo_rd_lt _ _ | exact mo_add_lt _ _ | exact mo_sub_lt _ _ | exact mo_mul_lt _ _ | exact mo_shl_lt _ _ | exact mo_ushr_lt _ _ | exact mo_or_lt (by decide) (mo_and_lt (mo_rd_lt _ _)) | exact mo_or_lt (mo_shl_lt _ _) (mo_and_lt (mo_rd_lt _ _)))) (sy_oks_cons (sy_ok2 (wh_lt hw 17 (by first | decide | assumption))) (sy_oks_cons (sy_ok0 (by first | decide | assumption | omega | exact mo_rd_lt _ _ | exact mo_add_lt _ _ | exact mo_sub_lt _ _ | exact mo_mul_lt _ _ | exact mo_shl_lt _ _ | exact mo_ushr_lt _ _ | exact mo_or_lt (by decide) (mo_and_lt (mo_rd_lt _ _)) | exact mo_or_lt (mo_shl_lt _ _) (mo_and_lt (mo_rd_lt _ _)))) (sy_oks_cons (sy_ok0 (by first | decide | assumption | omega | exact mo_rd_lt _ _ | exact mo_add_lt _ _ | exact mo_sub_lt _ _ | exact mo_mul_lt _ _ | exact mo_shl_lt _ _ | exact mo_ushr_lt _ _ | exact mo_or_lt (by decide) (mo_and_lt (mo_rd_lt _ _)) | exact mo_or_lt (mo_shl_lt _ _) (mo_and_lt (mo_rd_lt _ _)))) sy_oks_nil))))) rfl xl110) (wr_move (wh_ne hw 31 17 (by decide) (by decide) (by decide)) (wh_lt hw 31 (by first | decide | assumption)) (wh_lt hw 17 (by first | decide | assumption)) (wh_at hw 31 rfl) (wh_at hw 17 rfl) (by first | decide | assumption | omega) (by first | decide | assumption | omega) (by first | decide | assumption | omega) (by first | decide | assumption | omega)) (by decide) (by rw [xl110]; decide) sy_refl) ?_
  intro w hw
  simp only [List.set_cons_zero, List.set_cons_succ] at hw
  refine sy_Fs (sy_aldn xc126_237 rfl rfl sy_refl) ?_
  refine sy_Fs (sy_ild xc126_238 rfl rfl sy_refl) ?_
  refine sy_Fs (sy_aldn xc126_240 rfl rfl sy_refl) ?_
  refine sy_Fs (sy_gf xc126_241 xf126_433 rfl (wh_at hw 0 rfl) rfl (fh_at hX0 19 rfl rfl) sy_refl) ?_
  refine sy_Fs (sy_iconst (v := 0) xc126_244 (by decide) sy_refl) ?_
  refine sy_Fs (sy_bipush (v := 28) xc126_245 (by decide) (by decide) sy_refl) ?_
  refine sy_Fs (sy_bipush (v := 28) xc126_247 (by decide) (by decide) sy_refl) ?_
  obtain ⟨ret, w, ⟨rfl, X0, P1, W1, V1, S1, M1, Tp, u1, l1, hTp, hw1, hX1x⟩, hC⟩ := wq_pay (n := n) hw hX0 hA (f := fun j => mv_rd 32 z_M1 j) (mt_rd hBu) ((mv_rd_self 32 Pn 1 0).trans (by decide)) ((mv_rd_self 32 Bs 1 0).trans (by decide))
  refine sy_Fs (sy_callG (kd := 3) (as := [(2, pl 0, 0), (0, 1, 0), (2, pl 17, 0), (0, 0, 0), (0, 28, 0), (0, 28, 0)]) (S0 := []) (ret := []) xc126_249 (sy_calV (as := [(2, pl 0, 0), (0, 1, 0), (2, pl 17, 0), (0, 0, 0), (0, 28, 0), (0, 28, 0)]) (S0 := []) xm126_642 rfl rfl) rfl rfl (sy_rcvm xi127 (wh_at hw 0 rfl)) rfl (sy_oka (sy_oks_cons (sy_ok2 (wh_lt hw 0 (by first | decide | assumption))) (sy_oks_cons (sy_ok0 (by first | decide | assumption | omega | exact mo_rd_lt _ _ | exact mo_add_lt _ _ | exact mo_sub_lt _ _ | exact mo_mul_lt _ _ | exact mo_shl_lt _ _ | exact mo_ushr_lt _ _ | exact mo_or_lt (by decide) (mo_and_lt (mo_rd_lt _ _)) | exact mo_or_lt (mo_shl_lt _ _) (mo_and_lt (mo_rd_lt _ _)))) (sy_oks_cons (sy_ok2 (wh_lt hw 17 (by first | decide | assumption))) (sy_oks_cons (sy_ok0 (by first | decide | assumption | omega | exact mo_rd_lt _ _ | exact mo_add_lt _ _ | exact mo_sub_lt _ _ | exact mo_mul_lt _ _ | exact mo_shl_lt _ _ | exact mo_ushr_lt _ _ | exact mo_or_lt (by decide) (mo_and_lt (mo_rd_lt _ _)) | exact mo_or_lt (mo_shl_lt _ _) (mo_and_lt (mo_rd_lt _ _)))) (sy_oks_cons (sy_ok0 (by first | decide | assumption | omega | exact mo_rd_lt _ _ | exact mo_add_lt _ _ | exact mo_sub_lt _ _ | exact mo_mul_lt _ _ | exact mo_shl_lt _ _ | exact mo_ushr_lt _ _ | exact mo_or_lt (by decide) (mo_and_lt (mo_rd_lt _ _)) | exact mo_or_lt (mo_shl_lt _ _) (mo_and_lt (mo_rd_lt _ _)))) (sy_oks_cons (sy_ok0 (by first | decide | assumption | omega | exact mo_rd_lt _ _ | exact mo_add_lt _ _ | exact mo_sub_lt _ _ | exact mo_mul_lt _ _ | exact mo_shl_lt _ _ | exact mo_ushr_lt _ _ | exact mo_or_lt (by decide) (mo_and_lt (mo_rd_lt _ _)) | exact mo_or_lt (mo_shl_lt _ _) (mo_and_lt (mo_rd_lt _ _)))) sy_oks_nil)))))) rfl xl127) hC (by decide) (by rw [xl127]; decide) sy_refl) ?_
  replace hw := hw1
  replace hX0 := hX1x
  refine sy_Fs (sy_iconst (v := 0) xc126_252 (by decide) sy_refl) ?_
  refine sy_Fs (sx_ist (j := 6) (ls' := [(2, pl 0, 0), (0, 0, 0), (0, sec, 0), (2, pl 31, 0), (0, 0, 0), (0, 1, 0), (0, 0, 0), (255, 0, 0), (255, 0, 0)]) xc126_253 rfl (sy_ok0 (by first | decide | assumption | omega | exact mo_rd_lt _ _ | exact mo_add_lt _ _ | exact mo_sub_lt _ _ | exact mo_mul_lt _ _ | exact mo_shl_lt _ _ | exact mo_ushr_lt _ _ | exact mo_or_lt (by decide) (mo_and_lt (mo_rd_lt _ _)) | exact mo_or_lt (mo_shl_lt _ _) (mo_and_lt (mo_rd_lt _ _)))) (by rw [xl126]; rfl) rfl rfl) ?_
  refine sy_Fs (sy_iconst (v := 0) xc126_255 (by decide) sy_refl) ?_
  refine sy_Fs (sx_ist (j := 7) (ls' := [(2, pl 0, 0), (0, 0, 0), (0, sec, 0), (2, pl 31, 0), (0, 0, 0), (0, 1, 0), (0, 0, 0), (0, 0, 0), (255, 0, 0)]) xc126_256 rfl (sy_ok0 (by first | decide | assumption | omega | exact mo_rd_lt _ _ | exact mo_add_lt _ _ | exact mo_sub_lt _ _ | exact mo_mul_lt _ _ | exact mo_shl_lt _ _ | exact mo_ushr_lt _ _ | exact mo_or_lt (by decide) (mo_and_lt (mo_rd_lt _ _)) | exact mo_or_lt (mo_shl_lt _ _) (mo_and_lt (mo_rd_lt _ _)))) (by rw [xl126]; rfl) rfl rfl) ?_
  refine sy_Fs (sy_ild xc126_258 rfl rfl sy_refl) ?_
  refine sy_Fs (sy_aldn xc126_260 rfl rfl sy_refl) ?_
  refine sy_Fs (sy_gf xc126_261 xf126_646 rfl (wh_at hw 0 rfl) rfl (fh_at hX0 35 rfl rfl) sy_refl) ?_
  refine sy_Fs (sy_ge_t (pc' := 389) xc126_264 (by decide) (by decide) (by decide) (by decide) sy_refl) ?_
  refine sy_Fs (sy_aldn xc126_389 rfl rfl sy_refl) ?_
  refine sy_Fs (sy_ild xc126_390 rfl rfl sy_refl) ?_
  refine sy_Ff (i := 0) (q := 35) (v := (0, 0, 0)) hw hX0 (by decide) (by decide) rfl (sy_ok0 (by first | decide | assumption | omega | exact mo_rd_lt _ _ | exact mo_add_lt _ _ | exact mo_sub_lt _ _ | exact mo_mul_lt _ _ | exact mo_shl_lt _ _ | exact mo_ushr_lt _ _ | exact mo_or_lt (by decide) (mo_and_lt (mo_rd_lt _ _)) | exact mo_or_lt (mo_shl_lt _ _) (mo_and_lt (mo_rd_lt _ _)))) (sy_pfi xc126_392 xf126_646 rfl xt0_53 xn0_53 (wh_at hw 0 rfl) rfl (by first | decide | assumption | omega | exact mo_rd_lt _ _ | exact mo_add_lt _ _ | exact mo_sub_lt _ _ | exact mo_mul_lt _ _ | exact mo_shl_lt _ _ | exact mo_ushr_lt _ _ | exact mo_or_lt (by decide) (mo_and_lt (mo_rd_lt _ _)) | exact mo_or_lt (mo_shl_lt _ _) (mo_and_lt (mo_rd_lt _ _))) rfl sy_refl) ?_
  intro w X0 hw hX0
  simp only [List.set_cons_zero, List.set_cons_succ] at hw hX0
  refine sy_Fs (sy_bipush (v := 105) xc126_395 (by decide) (by decide) sy_refl) ?_
  refine sy_Fs (sy_ild xc126_397 rfl rfl sy_refl) ?_
  refine sy_Fs (sx_imul (z := 105) xc126_399 (by decide)) ?_
  refine sy_Fs (sx_ist (j := 7) (ls' := [(2, pl 0, 0), (0, 0, 0), (0, sec, 0), (2, pl 31, 0), (0, 0, 0), (0, 1, 0), (0, 0, 0), (0, 105, 0), (255, 0, 0)]) xc126_400 rfl (sy_ok0 (by first | decide | assumption | omega | exact mo_rd_lt _ _ | exact mo_add_lt _ _ | exact mo_sub_lt _ _ | exact mo_mul_lt _ _ | exact mo_shl_lt _ _ | exact mo_ushr_lt _ _ | exact mo_or_lt (by decide) (mo_and_lt (mo_rd_lt _ _)) | exact mo_or_lt (mo_shl_lt _ _) (mo_and_lt (mo_rd_lt _ _)))) (by rw [xl126]; rfl) rfl rfl) ?_
  refine sy_Fs (sy_iconst (v := 0) xc126_402 (by decide) sy_refl) ?_
  refine sy_Fs (sx_ist (j := 8) (ls' := [(2, pl 0, 0), (0, 0, 0), (0, sec, 0), (2, pl 31, 0), (0, 0, 0), (0, 1, 0), (0, 0, 0), (0, 105, 0), (0, 0, 0)]) xc126_403 rfl (sy_ok0 (by first | decide | assumption | omega | exact mo_rd_lt _ _ | exact mo_add_lt _ _ | exact mo_sub_lt _ _ | exact mo_mul_lt _ _ | exact mo_shl_lt _ _ | exact mo_ushr_lt _ _ | exact mo_or_lt (by decide) (mo_and_lt (mo_rd_lt _ _)) | exact mo_or_lt (mo_shl_lt _ _) (mo_and_lt (mo_rd_lt _ _)))) (by rw [xl126]; rfl) rfl rfl) ?_
  refine sy_Fs (sy_ild xc126_405 rfl rfl sy_refl) ?_
  refine sy_Fs (sy_bipush (v := 32) xc126_407 (by decide) (by decide) sy_refl) ?_
  refine sy_Fs (sy_ge_f xc126_409 (by decide) (by decide) (by decide) sy_refl) ?_
  refine sy_Fs (sy_aldn xc126_412 rfl rfl sy_refl) ?_
  refine sy_Fs (sy_gf xc126_413 xf126_382 rfl (wh_at hw 0 rfl) rfl (fh_at hX0 10 rfl rfl) sy_refl) ?_
  refine sy_Fs (sy_ild xc126_416 rfl rfl sy_refl) ?_
  refine sy_Fs (sy_ild xc126_418 rfl rfl sy_refl) ?_
  refine sy_Fs (sx_iadd (z := 105) xc126_420 (by decide)) ?_
  refine sy_Fs (sy_ildn xc126_421 rfl rfl sy_refl) ?_
  refine sy_Fs (sy_ifge_t (pc' := 429) xc126_422 (by decide) (by decide) (by decide) sy_refl) ?_
  refine sy_Fs (sy_aldn xc126_429 rfl rfl sy_refl) ?_
  refine sy_Fs (sy_gf xc126_430 xf126_385 rfl (wh_at hw 0 rfl) rfl (fh_at hX0 11 rfl rfl) sy_refl) ?_
  refine sy_Fs (sy_bipush (v := 32) xc126_433 (by decide) (by decide) sy_refl) ?_
  refine sy_Fs (sy_ildn xc126_435 rfl rfl sy_refl) ?_
  refine sy_Fs (sx_imul (z := 0) xc126_436 (by decide)) ?_
  refine sy_Fs (sy_ild xc126_437 rfl rfl sy_refl) ?_
  refine sy_Fs (sx_iadd (z := 0) xc126_439 (by decide)) ?_
  refine sy_Fs (sx_bal (z := (mv_rd 32 Bi 0)) xc126_440 (wh_at hw 9 rfl) (by decide) (by decide) rfl) ?_
  refine sy_Fw (i := 8) (x := (1, 1, 4200, (hc Hd Bi 1))) hw (by decide) (sy_bas (i := 105) xc126_441 (wh_at hw 8 rfl) rfl (by decide) (by decide) rfl sy_refl) ?_
  intro w hw
  simp only [List.set_cons_zero, List.set_cons_succ] at hw
  refine sy_Fs (sx_iinc (c := 1) (z := 1) (ls' := [(2, pl 0, 0), (0, 0, 0), (0, sec, 0), (2, pl 31, 0), (0, 0, 0), (0, 1, 0), (0, 0, 0), (0, 105, 0), (0, 1, 0)]) xc126_442 rfl (by decide) (by rw [xl126]; rfl) rfl (by decide) rfl) ?_
  refine sy_Fs (sy_goto (pc' := 405) xc126_445 (by decide) (by decide) sy_refl) ?_
  refine sy_Fs (sy_ild xc126_405 rfl rfl sy_refl) ?_
  refine sy_Fs (sy_bipush (v := 32) xc126_407 (by decide) (by decide) sy_refl) ?_
  refine sy_Fs (sy_ge_f xc126_409 (by decide) (by decide) (by decide) sy_refl) ?_
  refine sy_Fs (sy_aldn xc126_412 rfl rfl sy_refl) ?_
  refine sy_Fs (sy_gf xc126_413 xf126_382 rfl (wh_at hw 0 rfl) rfl (fh_at hX0 10 rfl rfl) sy_refl) ?_
  refine sy_Fs (sy_ild xc126_416 rfl rfl sy_refl) ?_
  refine sy_Fs (sy_ild xc126_418 rfl rfl sy_refl) ?_
  refine sy_Fs (sx_iadd (z := 106) xc126_420 (by decide)) ?_
  refine sy_Fs (sy_ildn xc126_421 rfl rfl sy_refl) ?_
  refine sy_Fs (sy_ifge_t (pc' := 429) xc126_422 (by decide) (by decide) (by decide) sy_refl) ?_
  refine sy_Fs (sy_aldn xc126_429 rfl rfl sy_refl) ?_
  refine sy_Fs (sy_gf xc126_430 xf126_385 rfl (wh_at hw 0 rfl) rfl (fh_at hX0 11 rfl rfl) sy_refl) ?_
  refine sy_Fs (sy_bipush (v := 32) xc126_433 (by decide) (by decide) sy_refl) ?_
  refine sy_Fs (sy_ildn xc126_435 rfl rfl sy_refl) ?_
  refine sy_Fs (sx_imul (z := 0) xc126_436 (by decide)) ?_
  refine sy_Fs (sy_ild xc126_437 rfl rfl sy_refl) ?_
  refine sy_Fs (sx_iadd (z := 1) xc126_439 (by decide)) ?_
  refine sy_Fs (sx_bal (z := (mv_rd 32 Bi 1)) xc126_440 (wh_at hw 9 rfl) (by decide) (by decide) rfl) ?_
  refine sy_Fw (i := 8) (x := (1, 1, 4200, (hc Hd Bi 2))) hw (by decide) (sy_bas (i := 106) xc126_441 (wh_at hw 8 rfl) rfl (by decide) (by decide) rfl sy_refl) ?_
  intro w hw
  simp only [List.set_cons_zero, List.set_cons_succ] at hw
  refine sy_Fs (sx_iinc (c := 1) (z := 2) (ls' := [(2, pl 0, 0), (0, 0, 0), (0, sec, 0), (2, pl 31, 0), (0, 0, 0), (0, 1, 0), (0, 0, 0), (0, 105, 0), (0, 2, 0)]) xc126_442 rfl (by decide) (by rw [xl126]; rfl) rfl (by decide) rfl) ?_
  refine sy_Fs (sy_goto (pc' := 405) xc126_445 (by decide) (by decide) sy_refl) ?_
  refine sy_Fs (sy_ild xc126_405 rfl rfl sy_refl) ?_
  refine sy_Fs (sy_bipush (v := 32) xc126_407 (by decide) (by decide) sy_refl) ?_
  refine sy_Fs (sy_ge_f xc126_409 (by decide) (by decide) (by decide) sy_refl) ?_
  refine sy_Fs (sy_aldn xc126_412 rfl rfl sy_refl) ?_
  refine sy_Fs (sy_gf xc126_413 xf126_382 rfl (wh_at hw 0 rfl) rfl (fh_at hX0 10 rfl rfl) sy_refl) ?_
  refine sy_Fs (sy_ild xc126_416 rfl rfl sy_refl) ?_
  refine sy_Fs (sy_ild xc126_418 rfl rfl sy_refl) ?_
  refine sy_Fs (sx_iadd (z := 107) xc126_420 (by decide)) ?_
  refine sy_Fs (sy_ildn xc126_421 rfl rfl sy_refl) ?_
  refine sy_Fs (sy_ifge_t (pc' := 429) xc126_422 (by decide) (by decide) (by decide) sy_refl) ?_
  refine sy_Fs (sy_aldn xc126_429 rfl rfl sy_refl) ?_
  refine sy_Fs (sy_gf xc126_430 xf126_385 rfl (wh_at hw 0 rfl) rfl (fh_at hX0 11 rfl rfl) sy_refl) ?_
  refine sy_Fs (sy_bipush (v := 32) xc126_433 (by decide) (by decide) sy_refl) ?_
  refine sy_Fs (sy_ildn xc126_435 rfl rfl sy_refl) ?_
  refine sy_Fs (sx_imul (z := 0) xc126_436 (by decide)) ?_
  refine sy_Fs (sy_ild xc126_437 rfl rfl sy_refl) ?_
  refine sy_Fs (sx_iadd (z := 2) xc126_439 (by decide)) ?_
  refine sy_Fs (sx_bal (z := (mv_rd 32 Bi 2)) xc126_440 (wh_at hw 9 rfl) (by decide) (by decide) rfl) ?_
  refine sy_Fw (i := 8) (x := (1, 1, 4200, (hc Hd Bi 3))) hw (by decide) (sy_bas (i := 107) xc126_441 (wh_at hw 8 rfl) rfl (by decide) (by decide) rfl sy_refl) ?_
  intro w hw
  simp only [List.set_cons_zero, List.set_cons_succ] at hw
  refine sy_Fs (sx_iinc (c := 1) (z := 3) (ls' := [(2, pl 0, 0), (0, 0, 0), (0, sec, 0), (2, pl 31, 0), (0, 0, 0), (0, 1, 0), (0, 0, 0), (0, 105, 0), (0, 3, 0)]) xc126_442 rfl (by decide) (by rw [xl126]; rfl) rfl (by decide) rfl) ?_
  refine sy_Fs (sy_goto (pc' := 405) xc126_445 (by decide) (by decide) sy_refl) ?_
  refine sy_Fs (sy_ild xc126_405 rfl rfl sy_refl) ?_
  refine sy_Fs (sy_bipush (v := 32) xc126_407 (by decide) (by decide) sy_refl) ?_
  refine sy_Fs (sy_ge_f xc126_409 (by decide) (by decide) (by decide) sy_refl) ?_
  refine sy_Fs (sy_aldn xc126_412 rfl rfl sy_refl) ?_
  refine sy_Fs (sy_gf xc126_413 xf126_382 rfl (wh_at hw 0 rfl) rfl (fh_at hX0 10 rfl rfl) sy_refl) ?_
  refine sy_Fs (sy_ild xc126_416 rfl rfl sy_refl) ?_
  refine sy_Fs (sy_ild xc126_418 rfl rfl sy_refl) ?_
  refine sy_Fs (sx_iadd (z := 108) xc126_420 (by decide)) ?_
  refine sy_Fs (sy_ildn xc126_421 rfl rfl sy_refl) ?_
  refine sy_Fs (sy_ifge_t (pc' := 429) xc126_422 (by decide) (by decide) (by decide) sy_refl) ?_
  refine sy_Fs (sy_aldn xc126_429 rfl rfl sy_refl) ?_
  refine sy_Fs (sy_gf xc126_430 xf126_385 rfl (wh_at hw 0 rfl) rfl (fh_at hX0 11 rfl rfl) sy_refl) ?_
  refine sy_Fs (sy_bipush (v := 32) xc126_433 (by decide) (by decide) sy_refl) ?_
  refine sy_Fs (sy_ildn xc126_435 rfl rfl sy_refl) ?_
  refine sy_Fs (sx_imul (z := 0) xc126_436 (by decide)) ?_
  refine sy_Fs (sy_ild xc126_437 rfl rfl sy_refl) ?_
  refine sy_Fs (sx_iadd (z := 3) xc126_439 (by decide)) ?_
  refine sy_Fs (sx_bal (z := (mv_rd 32 Bi 3)) xc126_440 (wh_at hw 9 rfl) (by decide) (by decide) rfl) ?_
  refine sy_Fw (i := 8) (x := (1, 1, 4200, (hc Hd Bi 4))) hw (by decide) (sy_bas (i := 108) xc126_441 (wh_at hw 8 rfl) rfl (by decide) (by decide) rfl sy_refl) ?_
  intro w hw
  simp only [List.set_cons_zero, List.set_cons_succ] at hw
  refine sy_Fs (sx_iinc (c := 1) (z := 4) (ls' := [(2, pl 0, 0), (0, 0, 0), (0, sec, 0), (2, pl 31, 0), (0, 0, 0), (0, 1, 0), (0, 0, 0), (0, 105, 0), (0, 4, 0)]) xc126_442 rfl (by decide) (by rw [xl126]; rfl) rfl (by decide) rfl) ?_
  refine sy_Fs (sy_goto (pc' := 405) xc126_445 (by decide) (by decide) sy_refl) ?_
  refine sy_Fs (sy_ild xc126_405 rfl rfl sy_refl) ?_
  refine sy_Fs (sy_bipush (v := 32) xc126_407 (by decide) (by decide) sy_refl) ?_
  refine sy_Fs (sy_ge_f xc126_409 (by decide) (by decide) (by decide) sy_refl) ?_
  refine sy_Fs (sy_aldn xc126_412 rfl rfl sy_refl) ?_
  refine sy_Fs (sy_gf xc126_413 xf126_382 rfl (wh_at hw 0 rfl) rfl (fh_at hX0 10 rfl rfl) sy_refl) ?_
  refine sy_Fs (sy_ild xc126_416 rfl rfl sy_refl) ?_
  refine sy_Fs (sy_ild xc126_418 rfl rfl sy_refl) ?_
  refine sy_Fs (sx_iadd (z := 109) xc126_420 (by decide)) ?_
  refine sy_Fs (sy_ildn xc126_421 rfl rfl sy_refl) ?_
  refine sy_Fs (sy_ifge_t (pc' := 429) xc126_422 (by decide) (by decide) (by decide) sy_refl) ?_
  refine sy_Fs (sy_aldn xc126_429 rfl rfl sy_refl) ?_
  refine sy_Fs (sy_gf xc126_430 xf126_385 rfl (wh_at hw 0 rfl) rfl (fh_at hX0 11 rfl rfl) sy_refl) ?_
  refine sy_Fs (sy_bipush (v := 32) xc126_433 (by decide) (by decide) sy_refl) ?_
  refine sy_Fs (sy_ildn xc126_435 rfl rfl sy_refl) ?_
  refine sy_Fs (sx_imul (z := 0) xc126_436 (by decide)) ?_
  refine sy_Fs (sy_ild xc126_437 rfl rfl sy_refl) ?_
  refine sy_Fs (sx_iadd (z := 4) xc126_439 (by decide)) ?_
  refine sy_Fs (sx_bal (z := (mv_rd 32 Bi 4)) xc126_440 (wh_at hw 9 rfl) (by decide) (by decide) rfl) ?_
  refine sy_Fw (i := 8) (x := (1, 1, 4200, (hc Hd Bi 5))) hw (by decide) (sy_bas (i := 109) xc126_441 (wh_at hw 8 rfl) rfl (by decide) (by decide) rfl sy_refl) ?_
  intro w hw
  simp only [List.set_cons_zero, List.set_cons_succ] at hw
  refine sy_Fs (sx_iinc (c := 1) (z := 5) (ls' := [(2, pl 0, 0), (0, 0, 0), (0, sec, 0), (2, pl 31, 0), (0, 0, 0), (0, 1, 0), (0, 0, 0), (0, 105, 0), (0, 5, 0)]) xc126_442 rfl (by decide) (by rw [xl126]; rfl) rfl (by decide) rfl) ?_
  refine sy_Fs (sy_goto (pc' := 405) xc126_445 (by decide) (by decide) sy_refl) ?_
  refine sy_Fs (sy_ild xc126_405 rfl rfl sy_refl) ?_
  refine sy_Fs (sy_bipush (v := 32) xc126_407 (by decide) (by decide) sy_refl) ?_
  refine sy_Fs (sy_ge_f xc126_409 (by decide) (by decide) (by decide) sy_refl) ?_
  refine sy_Fs (sy_aldn xc126_412 rfl rfl sy_refl) ?_
  refine sy_Fs (sy_gf xc126_413 xf126_382 rfl (wh_at hw 0 rfl) rfl (fh_at hX0 10 rfl rfl) sy_refl) ?_
  refine sy_Fs (sy_ild xc126_416 rfl rfl sy_refl) ?_
  refine sy_Fs (sy_ild xc126_418 rfl rfl sy_refl) ?_
  refine sy_Fs (sx_iadd (z := 110) xc126_420 (by decide)) ?_
  refine sy_Fs (sy_ildn xc126_421 rfl rfl sy_refl) ?_
  refine sy_Fs (sy_ifge_t (pc' := 429) xc126_422 (by decide) (by decide) (by decide) sy_refl) ?_
  refine sy_Fs (sy_aldn xc126_429 rfl rfl sy_refl) ?_
  refine sy_Fs (sy_gf xc126_430 xf126_385 rfl (wh_at hw 0 rfl) rfl (fh_at hX0 11 rfl rfl) sy_refl) ?_
  refine sy_Fs (sy_bipush (v := 32) xc126_433 (by decide) (by decide) sy_refl) ?_
  refine sy_Fs (sy_ildn xc126_435 rfl rfl sy_refl) ?_
  refine sy_Fs (sx_imul (z := 0) xc126_436 (by decide)) ?_
  refine sy_Fs (sy_ild xc126_437 rfl rfl sy_refl) ?_
  refine sy_Fs (sx_iadd (z := 5) xc126_439 (by decide)) ?_
  refine sy_Fs (sx_bal (z := (mv_rd 32 Bi 5)) xc126_440 (wh_at hw 9 rfl) (by decide) (by decide) rfl) ?_
  refine sy_Fw (i := 8) (x := (1, 1, 4200, (hc Hd Bi 6))) hw (by decide) (sy_bas (i := 110) xc126_441 (wh_at hw 8 rfl) rfl (by decide) (by decide) rfl sy_refl) ?_
  intro w hw
  simp only [List.set_cons_zero, List.set_cons_succ] at hw
  refine sy_Fs (sx_iinc (c := 1) (z := 6) (ls' := [(2, pl 0, 0), (0, 0, 0), (0, sec, 0), (2, pl 31, 0), (0, 0, 0), (0, 1, 0), (0, 0, 0), (0, 105, 0), (0, 6, 0)]) xc126_442 rfl (by decide) (by rw [xl126]; rfl) rfl (by decide) rfl) ?_
  refine sy_Fs (sy_goto (pc' := 405) xc126_445 (by decide) (by decide) sy_refl) ?_
  refine sy_Fs (sy_ild xc126_405 rfl rfl sy_refl) ?_
  refine sy_Fs (sy_bipush (v := 32) xc126_407 (by decide) (by decide) sy_refl) ?_
  refine sy_Fs (sy_ge_f xc126_409 (by decide) (by decide) (by decide) sy_refl) ?_
  refine sy_Fs (sy_aldn xc126_412 rfl rfl sy_refl) ?_
  refine sy_Fs (sy_gf xc126_413 xf126_382 rfl (wh_at hw 0 rfl) rfl (fh_at hX0 10 rfl rfl) sy_refl) ?_
  refine sy_Fs (sy_ild xc126_416 rfl rfl sy_refl) ?_
  refine sy_Fs (sy_ild xc126_418 rfl rfl sy_refl) ?_
  refine sy_Fs (sx_iadd (z := 111) xc126_420 (by decide)) ?_
  refine sy_Fs (sy_ildn xc126_421 rfl rfl sy_refl) ?_
  refine sy_Fs (sy_ifge_t (pc' := 429) xc126_422 (by decide) (by decide) (by decide) sy_refl) ?_
  refine sy_Fs (sy_aldn xc126_429 rfl rfl sy_refl) ?_
  refine sy_Fs (sy_gf xc126_430 xf126_385 rfl (wh_at hw 0 rfl) rfl (fh_at hX0 11 rfl rfl) sy_refl) ?_
  refine sy_Fs (sy_bipush (v := 32) xc126_433 (by decide) (by decide) sy_refl) ?_
  refine sy_Fs (sy_ildn xc126_435 rfl rfl sy_refl) ?_
  refine sy_Fs (sx_imul (z := 0) xc126_436 (by decide)) ?_
  refine sy_Fs (sy_ild xc126_437 rfl rfl sy_refl) ?_
  refine sy_Fs (sx_iadd (z := 6) xc126_439 (by decide)) ?_
  refine sy_Fs (sx_bal (z := (mv_rd 32 Bi 6)) xc126_440 (wh_at hw 9 rfl) (by decide) (by decide) rfl) ?_
  refine sy_Fw (i := 8) (x := (1, 1, 4200, (hc Hd Bi 7))) hw (by decide) (sy_bas (i := 111) xc126_441 (wh_at hw 8 rfl) rfl (by decide) (by decide) rfl sy_refl) ?_
  intro w hw
  simp only [List.set_cons_zero, List.set_cons_succ] at hw
  refine sy_Fs (sx_iinc (c := 1) (z := 7) (ls' := [(2, pl 0, 0), (0, 0, 0), (0, sec, 0), (2, pl 31, 0), (0, 0, 0), (0, 1, 0), (0, 0, 0), (0, 105, 0), (0, 7, 0)]) xc126_442 rfl (by decide) (by rw [xl126]; rfl) rfl (by decide) rfl) ?_
  refine sy_Fs (sy_goto (pc' := 405) xc126_445 (by decide) (by decide) sy_refl) ?_
  refine sy_Fs (sy_ild xc126_405 rfl rfl sy_refl) ?_
  refine sy_Fs (sy_bipush (v := 32) xc126_407 (by decide) (by decide) sy_refl) ?_
  refine sy_Fs (sy_ge_f xc126_409 (by decide) (by decide) (by decide) sy_refl) ?_
  refine sy_Fs (sy_aldn xc126_412 rfl rfl sy_refl) ?_
  refine sy_Fs (sy_gf xc126_413 xf126_382 rfl (wh_at hw 0 rfl) rfl (fh_at hX0 10 rfl rfl) sy_refl) ?_
  refine sy_Fs (sy_ild xc126_416 rfl rfl sy_refl) ?_
  refine sy_Fs (sy_ild xc126_418 rfl rfl sy_refl) ?_
  refine sy_Fs (sx_iadd (z := 112) xc126_420 (by decide)) ?_
  refine sy_Fs (sy_ildn xc126_421 rfl rfl sy_refl) ?_
  refine sy_Fs (sy_ifge_t (pc' := 429) xc126_422 (by decide) (by decide) (by decide) sy_refl) ?_
  refine sy_Fs (sy_aldn xc126_429 rfl rfl sy_refl) ?_
  refine sy_Fs (sy_gf xc126_430 xf126_385 rfl (wh_at hw 0 rfl) rfl (fh_at hX0 11 rfl rfl) sy_refl) ?_
  refine sy_Fs (sy_bipush (v := 32) xc126_433 (by decide) (by decide) sy_refl) ?_
  refine sy_Fs (sy_ildn xc126_435 rfl rfl sy_refl) ?_
  refine sy_Fs (sx_imul (z := 0) xc126_436 (by decide)) ?_
  refine sy_Fs (sy_ild xc126_437 rfl rfl sy_refl) ?_
  refine sy_Fs (sx_iadd (z := 7) xc126_439 (by decide)) ?_
  refine sy_Fs (sx_bal (z := (mv_rd 32 Bi 7)) xc126_440 (wh_at hw 9 rfl) (by decide) (by decide) rfl) ?_
  refine sy_Fw (i := 8) (x := (1, 1, 4200, (hc Hd Bi 8))) hw (by decide) (sy_bas (i := 112) xc126_441 (wh_at hw 8 rfl) rfl (by decide) (by decide) rfl sy_refl) ?_
  intro w hw
  simp only [List.set_cons_zero, List.set_cons_succ] at hw
  refine sy_Fs (sx_iinc (c := 1) (z := 8) (ls' := [(2, pl 0, 0), (0, 0, 0), (0, sec, 0), (2, pl 31, 0), (0, 0, 0), (0, 1, 0), (0, 0, 0), (0, 105, 0), (0, 8, 0)]) xc126_442 rfl (by decide) (by rw [xl126]; rfl) rfl (by decide) rfl) ?_
  refine sy_Fs (sy_goto (pc' := 405) xc126_445 (by decide) (by decide) sy_refl) ?_
  refine sy_Fs (sy_ild xc126_405 rfl rfl sy_refl) ?_
  refine sy_Fs (sy_bipush (v := 32) xc126_407 (by decide) (by decide) sy_refl) ?_
  refine sy_Fs (sy_ge_f xc126_409 (by decide) (by decide) (by decide) sy_refl) ?_
  refine sy_Fs (sy_aldn xc126_412 rfl rfl sy_refl) ?_
  refine sy_Fs (sy_gf xc126_413 xf126_382 rfl (wh_at hw 0 rfl) rfl (fh_at hX0 10 rfl rfl) sy_refl) ?_
  refine sy_Fs (sy_ild xc126_416 rfl rfl sy_refl) ?_
  refine sy_Fs (sy_ild xc126_418 rfl rfl sy_refl) ?_
  refine sy_Fs (sx_iadd (z := 113) xc126_420 (by decide)) ?_
  refine sy_Fs (sy_ildn xc126_421 rfl rfl sy_refl) ?_
  refine sy_Fs (sy_ifge_t (pc' := 429) xc126_422 (by decide) (by decide) (by decide) sy_refl) ?_
  refine sy_Fs (sy_aldn xc126_429 rfl rfl sy_refl) ?_
  refine sy_Fs (sy_gf xc126_430 xf126_385 rfl (wh_at hw 0 rfl) rfl (fh_at hX0 11 rfl rfl) sy_refl) ?_
  refine sy_Fs (sy_bipush (v := 32) xc126_433 (by decide) (by decide) sy_refl) ?_
  refine sy_Fs (sy_ildn xc126_435 rfl rfl sy_refl) ?_
  refine sy_Fs (sx_imul (z := 0) xc126_436 (by decide)) ?_
  refine sy_Fs (sy_ild xc126_437 rfl rfl sy_refl) ?_
  refine sy_Fs (sx_iadd (z := 8) xc126_439 (by decide)) ?_
  refine sy_Fs (sx_bal (z := (mv_rd 32 Bi 8)) xc126_440 (wh_at hw 9 rfl) (by decide) (by decide) rfl) ?_
  refine sy_Fw (i := 8) (x := (1, 1, 4200, (hc Hd Bi 9))) hw (by decide) (sy_bas (i := 113) xc126_441 (wh_at hw 8 rfl) rfl (by decide) (by decide) rfl sy_refl) ?_
  intro w hw
  simp only [List.set_cons_zero, List.set_cons_succ] at hw
  refine sy_Fs (sx_iinc (c := 1) (z := 9) (ls' := [(2, pl 0, 0), (0, 0, 0), (0, sec, 0), (2, pl 31, 0), (0, 0, 0), (0, 1, 0), (0, 0, 0), (0, 105, 0), (0, 9, 0)]) xc126_442 rfl (by decide) (by rw [xl126]; rfl) rfl (by decide) rfl) ?_
  refine sy_Fs (sy_goto (pc' := 405) xc126_445 (by decide) (by decide) sy_refl) ?_
  refine sy_Fs (sy_ild xc126_405 rfl rfl sy_refl) ?_
  refine sy_Fs (sy_bipush (v := 32) xc126_407 (by decide) (by decide) sy_refl) ?_
  refine sy_Fs (sy_ge_f xc126_409 (by decide) (by decide) (by decide) sy_refl) ?_
  refine sy_Fs (sy_aldn xc126_412 rfl rfl sy_refl) ?_
  refine sy_Fs (sy_gf xc126_413 xf126_382 rfl (wh_at hw 0 rfl) rfl (fh_at hX0 10 rfl rfl) sy_refl) ?_
  refine sy_Fs (sy_ild xc126_416 rfl rfl sy_refl) ?_
  refine sy_Fs (sy_ild xc126_418 rfl rfl sy_refl) ?_
  refine sy_Fs (sx_iadd (z := 114) xc126_420 (by decide)) ?_
  refine sy_Fs (sy_ildn xc126_421 rfl rfl sy_refl) ?_
  refine sy_Fs (sy_ifge_t (pc' := 429) xc126_422 (by decide) (by decide) (by decide) sy_refl) ?_
  refine sy_Fs (sy_aldn xc126_429 rfl rfl sy_refl) ?_
  refine sy_Fs (sy_gf xc126_430 xf126_385 rfl (wh_at hw 0 rfl) rfl (fh_at hX0 11 rfl rfl) sy_refl) ?_
  refine sy_Fs (sy_bipush (v := 32) xc126_433 (by decide) (by decide) sy_refl) ?_
  refine sy_Fs (sy_ildn xc126_435 rfl rfl sy_refl) ?_
  refine sy_Fs (sx_imul (z := 0) xc126_436 (by decide)) ?_
  refine sy_Fs (sy_ild xc126_437 rfl rfl sy_refl) ?_
  refine sy_Fs (sx_iadd (z := 9) xc126_439 (by decide)) ?_
  refine sy_Fs (sx_bal (z := (mv_rd 32 Bi 9)) xc126_440 (wh_at hw 9 rfl) (by decide) (by decide) rfl) ?_
  refine sy_Fw (i := 8) (x := (1, 1, 4200, (hc Hd Bi 10))) hw (by decide) (sy_bas (i := 114) xc126_441 (wh_at hw 8 rfl) rfl (by decide) (by decide) rfl sy_refl) ?_
  intro w hw
  simp only [List.set_cons_zero, List.set_cons_succ] at hw
  refine sy_Fs (sx_iinc (c := 1) (z := 10) (ls' := [(2, pl 0, 0), (0, 0, 0), (0, sec, 0), (2, pl 31, 0), (0, 0, 0), (0, 1, 0), (0, 0, 0), (0, 105, 0), (0, 10, 0)]) xc126_442 rfl (by decide) (by rw [xl126]; rfl) rfl (by decide) rfl) ?_
  refine sy_Fs (sy_goto (pc' := 405) xc126_445 (by decide) (by decide) sy_refl) ?_
  refine sy_Fs (sy_ild xc126_405 rfl rfl sy_refl) ?_
  refine sy_Fs (sy_bipush (v := 32) xc126_407 (by decide) (by decide) sy_refl) ?_
  refine sy_Fs (sy_ge_f xc126_409 (by decide) (by decide) (by decide) sy_refl) ?_
  refine sy_Fs (sy_aldn xc126_412 rfl rfl sy_refl) ?_
  refine sy_Fs (sy_gf xc126_413 xf126_382 rfl (wh_at hw 0 rfl) rfl (fh_at hX0 10 rfl rfl) sy_refl) ?_
  refine sy_Fs (sy_ild xc126_416 rfl rfl sy_refl) ?_
  refine sy_Fs (sy_ild xc126_418 rfl rfl sy_refl) ?_
  refine sy_Fs (sx_iadd (z := 115) xc126_420 (by decide)) ?_
  refine sy_Fs (sy_ildn xc126_421 rfl rfl sy_refl) ?_
  refine sy_Fs (sy_ifge_t (pc' := 429) xc126_422 (by decide) (by decide) (by decide) sy_refl) ?_
  refine sy_Fs (sy_aldn xc126_429 rfl rfl sy_refl) ?_
  refine sy_Fs (sy_gf xc126_430 xf126_385 rfl (wh_at hw 0 rfl) rfl (fh_at hX0 11 rfl rfl) sy_refl) ?_
  refine sy_Fs (sy_bipush (v := 32) xc126_433 (by decide) (by decide) sy_refl) ?_
  refine sy_Fs (sy_ildn xc126_435 rfl rfl sy_refl) ?_
  refine sy_Fs (sx_imul (z := 0) xc126_436 (by decide)) ?_
  refine sy_Fs (sy_ild xc126_437 rfl rfl sy_refl) ?_
  refine sy_Fs (sx_iadd (z := 10) xc126_439 (by decide)) ?_
  refine sy_Fs (sx_bal (z := (mv_rd 32 Bi 10)) xc126_440 (wh_at hw 9 rfl) (by decide) (by decide) rfl) ?_
  refine sy_Fw (i := 8) (x := (1, 1, 4200, (hc Hd Bi 11))) hw (by decide) (sy_bas (i := 115) xc126_441 (wh_at hw 8 rfl) rfl (by decide) (by decide) rfl sy_refl) ?_
  intro w hw
  simp only [List.set_cons_zero, List.set_cons_succ] at hw
  refine sy_Fs (sx_iinc (c := 1) (z := 11) (ls' := [(2, pl 0, 0), (0, 0, 0), (0, sec, 0), (2, pl 31, 0), (0, 0, 0), (0, 1, 0), (0, 0, 0), (0, 105, 0), (0, 11, 0)]) xc126_442 rfl (by decide) (by rw [xl126]; rfl) rfl (by decide) rfl) ?_
  refine sy_Fs (sy_goto (pc' := 405) xc126_445 (by decide) (by decide) sy_refl) ?_
  refine sy_Fs (sy_ild xc126_405 rfl rfl sy_refl) ?_
  refine sy_Fs (sy_bipush (v := 32) xc126_407 (by decide) (by decide) sy_refl) ?_
  refine sy_Fs (sy_ge_f xc126_409 (by decide) (by decide) (by decide) sy_refl) ?_
  refine sy_Fs (sy_aldn xc126_412 rfl rfl sy_refl) ?_
  refine sy_Fs (sy_gf xc126_413 xf126_382 rfl (wh_at hw 0 rfl) rfl (fh_at hX0 10 rfl rfl) sy_refl) ?_
  refine sy_Fs (sy_ild xc126_416 rfl rfl sy_refl) ?_
  refine sy_Fs (sy_ild xc126_418 rfl rfl sy_refl) ?_
  refine sy_Fs (sx_iadd (z := 116) xc126_420 (by decide)) ?_
  refine sy_Fs (sy_ildn xc126_421 rfl rfl sy_refl) ?_
  refine sy_Fs (sy_ifge_t (pc' := 429) xc126_422 (by decide) (by decide) (by decide) sy_refl) ?_
  refine sy_Fs (sy_aldn xc126_429 rfl rfl sy_refl) ?_
  refine sy_Fs (sy_gf xc126_430 xf126_385 rfl (wh_at hw 0 rfl) rfl (fh_at hX0 11 rfl rfl) sy_refl) ?_
  refine sy_Fs (sy_bipush (v := 32) xc126_433 (by decide) (by decide) sy_refl) ?_
  refine sy_Fs (sy_ildn xc126_435 rfl rfl sy_refl) ?_
  refine sy_Fs (sx_imul (z := 0) xc126_436 (by decide)) ?_
  refine sy_Fs (sy_ild xc126_437 rfl rfl sy_refl) ?_
  refine sy_Fs (sx_iadd (z := 11) xc126_439 (by decide)) ?_
  refine sy_Fs (sx_bal (z := (mv_rd 32 Bi 11)) xc126_440 (wh_at hw 9 rfl) (by decide) (by decide) rfl) ?_
  refine sy_Fw (i := 8) (x := (1, 1, 4200, (hc Hd Bi 12))) hw (by decide) (sy_bas (i := 116) xc126_441 (wh_at hw 8 rfl) rfl (by decide) (by decide) rfl sy_refl) ?_
  intro w hw
  simp only [List.set_cons_zero, List.set_cons_succ] at hw
  refine sy_Fs (sx_iinc (c := 1) (z := 12) (ls' := [(2, pl 0, 0), (0, 0, 0), (0, sec, 0), (2, pl 31, 0), (0, 0, 0), (0, 1, 0), (0, 0, 0), (0, 105, 0), (0, 12, 0)]) xc126_442 rfl (by decide) (by rw [xl126]; rfl) rfl (by decide) rfl) ?_
  refine sy_Fs (sy_goto (pc' := 405) xc126_445 (by decide) (by decide) sy_refl) ?_
  refine sy_Fs (sy_ild xc126_405 rfl rfl sy_refl) ?_
  refine sy_Fs (sy_bipush (v := 32) xc126_407 (by decide) (by decide) sy_refl) ?_
  refine sy_Fs (sy_ge_f xc126_409 (by decide) (by decide) (by decide) sy_refl) ?_
  refine sy_Fs (sy_aldn xc126_412 rfl rfl sy_refl) ?_
  refine sy_Fs (sy_gf xc126_413 xf126_382 rfl (wh_at hw 0 rfl) rfl (fh_at hX0 10 rfl rfl) sy_refl) ?_
  refine sy_Fs (sy_ild xc126_416 rfl rfl sy_refl) ?_
  refine sy_Fs (sy_ild xc126_418 rfl rfl sy_refl) ?_
  refine sy_Fs (sx_iadd (z := 117) xc126_420 (by decide)) ?_
  refine sy_Fs (sy_ildn xc126_421 rfl rfl sy_refl) ?_
  refine sy_Fs (sy_ifge_t (pc' := 429) xc126_422 (by decide) (by decide) (by decide) sy_refl) ?_
  refine sy_Fs (sy_aldn xc126_429 rfl rfl sy_refl) ?_
  refine sy_Fs (sy_gf xc126_430 xf126_385 rfl (wh_at hw 0 rfl) rfl (fh_at hX0 11 rfl rfl) sy_refl) ?_
  refine sy_Fs (sy_bipush (v := 32) xc126_433 (by decide) (by decide) sy_refl) ?_
  refine sy_Fs (sy_ildn xc126_435 rfl rfl sy_refl) ?_
  refine sy_Fs (sx_imul (z := 0) xc126_436 (by decide)) ?_
  refine sy_Fs (sy_ild xc126_437 rfl rfl sy_refl) ?_
  refine sy_Fs (sx_iadd (z := 12) xc126_439 (by decide)) ?_
  refine sy_Fs (sx_bal (z := (mv_rd 32 Bi 12)) xc126_440 (wh_at hw 9 rfl) (by decide) (by decide) rfl) ?_
  refine sy_Fw (i := 8) (x := (1, 1, 4200, (hc Hd Bi 13))) hw (by decide) (sy_bas (i := 117) xc126_441 (wh_at hw 8 rfl) rfl (by decide) (by decide) rfl sy_refl) ?_
  intro w hw
  simp only [List.set_cons_zero, List.set_cons_succ] at hw
  refine sy_Fs (sx_iinc (c := 1) (z := 13) (ls' := [(2, pl 0, 0), (0, 0, 0), (0, sec, 0), (2, pl 31, 0), (0, 0, 0), (0, 1, 0), (0, 0, 0), (0, 105, 0), (0, 13, 0)]) xc126_442 rfl (by decide) (by rw [xl126]; rfl) rfl (by decide) rfl) ?_
  refine sy_Fs (sy_goto (pc' := 405) xc126_445 (by decide) (by decide) sy_refl) ?_
  refine sy_Fs (sy_ild xc126_405 rfl rfl sy_refl) ?_
  refine sy_Fs (sy_bipush (v := 32) xc126_407 (by decide) (by decide) sy_refl) ?_
  refine sy_Fs (sy_ge_f xc126_409 (by decide) (by decide) (by decide) sy_refl) ?_
  refine sy_Fs (sy_aldn xc126_412 rfl rfl sy_refl) ?_
  refine sy_Fs (sy_gf xc126_413 xf126_382 rfl (wh_at hw 0 rfl) rfl (fh_at hX0 10 rfl rfl) sy_refl) ?_
  refine sy_Fs (sy_ild xc126_416 rfl rfl sy_refl) ?_
  refine sy_Fs (sy_ild xc126_418 rfl rfl sy_refl) ?_
  refine sy_Fs (sx_iadd (z := 118) xc126_420 (by decide)) ?_
  refine sy_Fs (sy_ildn xc126_421 rfl rfl sy_refl) ?_
  refine sy_Fs (sy_ifge_t (pc' := 429) xc126_422 (by decide) (by decide) (by decide) sy_refl) ?_
  refine sy_Fs (sy_aldn xc126_429 rfl rfl sy_refl) ?_
  refine sy_Fs (sy_gf xc126_430 xf126_385 rfl (wh_at hw 0 rfl) rfl (fh_at hX0 11 rfl rfl) sy_refl) ?_
  refine sy_Fs (sy_bipush (v := 32) xc126_433 (by decide) (by decide) sy_refl) ?_
  refine sy_Fs (sy_ildn xc126_435 rfl rfl sy_refl) ?_
  refine sy_Fs (sx_imul (z := 0) xc126_436 (by decide)) ?_
  refine sy_Fs (sy_ild xc126_437 rfl rfl sy_refl) ?_
  refine sy_Fs (sx_iadd (z := 13) xc126_439 (by decide)) ?_
  refine sy_Fs (sx_bal (z := (mv_rd 32 Bi 13)) xc126_440 (wh_at hw 9 rfl) (by decide) (by decide) rfl) ?_
  refine sy_Fw (i := 8) (x := (1, 1, 4200, (hc Hd Bi 14))) hw (by decide) (sy_bas (i := 118) xc126_441 (wh_at hw 8 rfl) rfl (by decide) (by decide) rfl sy_refl) ?_
  intro w hw
  simp only [List.set_cons_zero, List.set_cons_succ] at hw
  refine sy_Fs (sx_iinc (c := 1) (z := 14) (ls' := [(2, pl 0, 0), (0, 0, 0), (0, sec, 0), (2, pl 31, 0), (0, 0, 0), (0, 1, 0), (0, 0, 0), (0, 105, 0), (0, 14, 0)]) xc126_442 rfl (by decide) (by rw [xl126]; rfl) rfl (by decide) rfl) ?_
  refine sy_Fs (sy_goto (pc' := 405) xc126_445 (by decide) (by decide) sy_refl) ?_
  refine sy_Fs (sy_ild xc126_405 rfl rfl sy_refl) ?_
  refine sy_Fs (sy_bipush (v := 32) xc126_407 (by decide) (by decide) sy_refl) ?_
  refine sy_Fs (sy_ge_f xc126_409 (by decide) (by decide) (by decide) sy_refl) ?_
  refine sy_Fs (sy_aldn xc126_412 rfl rfl sy_refl) ?_
  refine sy_Fs (sy_gf xc126_413 xf126_382 rfl (wh_at hw 0 rfl) rfl (fh_at hX0 10 rfl rfl) sy_refl) ?_
  refine sy_Fs (sy_ild xc126_416 rfl rfl sy_refl) ?_
  refine sy_Fs (sy_ild xc126_418 rfl rfl sy_refl) ?_
  refine sy_Fs (sx_iadd (z := 119) xc126_420 (by decide)) ?_
  refine sy_Fs (sy_ildn xc126_421 rfl rfl sy_refl) ?_
  refine sy_Fs (sy_ifge_t (pc' := 429) xc126_422 (by decide) (by decide) (by decide) sy_refl) ?_
  refine sy_Fs (sy_aldn xc126_429 rfl rfl sy_refl) ?_
  refine sy_Fs (sy_gf xc126_430 xf126_385 rfl (wh_at hw 0 rfl) rfl (fh_at hX0 11 rfl rfl) sy_refl) ?_
  refine sy_Fs (sy_bipush (v := 32) xc126_433 (by decide) (by decide) sy_refl) ?_
  refine sy_Fs (sy_ildn xc126_435 rfl rfl sy_refl) ?_
  refine sy_Fs (sx_imul (z := 0) xc126_436 (by decide)) ?_
  refine sy_Fs (sy_ild xc126_437 rfl rfl sy_refl) ?_
  refine sy_Fs (sx_iadd (z := 14) xc126_439 (by decide)) ?_
  refine sy_Fs (sx_bal (z := (mv_rd 32 Bi 14)) xc126_440 (wh_at hw 9 rfl) (by decide) (by decide) rfl) ?_
  refine sy_Fw (i := 8) (x := (1, 1, 4200, (hc Hd Bi 15))) hw (by decide) (sy_bas (i := 119) xc126_441 (wh_at hw 8 rfl) rfl (by decide) (by decide) rfl sy_refl) ?_
  intro w hw
  simp only [List.set_cons_zero, List.set_cons_succ] at hw
  refine sy_Fs (sx_iinc (c := 1) (z := 15) (ls' := [(2, pl 0, 0), (0, 0, 0), (0, sec, 0), (2, pl 31, 0), (0, 0, 0), (0, 1, 0), (0, 0, 0), (0, 105, 0), (0, 15, 0)]) xc126_442 rfl (by decide) (by rw [xl126]; rfl) rfl (by decide) rfl) ?_
  refine sy_Fs (sy_goto (pc' := 405) xc126_445 (by decide) (by decide) sy_refl) ?_
  refine sy_Fs (sy_ild xc126_405 rfl rfl sy_refl) ?_
  refine sy_Fs (sy_bipush (v := 32) xc126_407 (by decide) (by decide) sy_refl) ?_
  refine sy_Fs (sy_ge_f xc126_409 (by decide) (by decide) (by decide) sy_refl) ?_
  refine sy_Fs (sy_aldn xc126_412 rfl rfl sy_refl) ?_
  refine sy_Fs (sy_gf xc126_413 xf126_382 rfl (wh_at hw 0 rfl) rfl (fh_at hX0 10 rfl rfl) sy_refl) ?_
  refine sy_Fs (sy_ild xc126_416 rfl rfl sy_refl) ?_
  refine sy_Fs (sy_ild xc126_418 rfl rfl sy_refl) ?_
  refine sy_Fs (sx_iadd (z := 120) xc126_420 (by decide)) ?_
  refine sy_Fs (sy_ildn xc126_421 rfl rfl sy_refl) ?_
  refine sy_Fs (sy_ifge_t (pc' := 429) xc126_422 (by decide) (by decide) (by decide) sy_refl) ?_
  refine sy_Fs (sy_aldn xc126_429 rfl rfl sy_refl) ?_
  refine sy_Fs (sy_gf xc126_430 xf126_385 rfl (wh_at hw 0 rfl) rfl (fh_at hX0 11 rfl rfl) sy_refl) ?_
  refine sy_Fs (sy_bipush (v := 32) xc126_433 (by decide) (by decide) sy_refl) ?_
  refine sy_Fs (sy_ildn xc126_435 rfl rfl sy_refl) ?_
  refine sy_Fs (sx_imul (z := 0) xc126_436 (by decide)) ?_
  refine sy_Fs (sy_ild xc126_437 rfl rfl sy_refl) ?_
  refine sy_Fs (sx_iadd (z := 15) xc126_439 (by decide)) ?_
  refine sy_Fs (sx_bal (z := (mv_rd 32 Bi 15)) xc126_440 (wh_at hw 9 rfl) (by decide) (by decide) rfl) ?_
  refine sy_Fw (i := 8) (x := (1, 1, 4200, (hc Hd Bi 16))) hw (by decide) (sy_bas (i := 120) xc126_441 (wh_at hw 8 rfl) rfl (by decide) (by decide) rfl sy_refl) ?_
  intro w hw
  simp only [List.set_cons_zero, List.set_cons_succ] at hw
  refine sy_Fs (sx_iinc (c := 1) (z := 16) (ls' := [(2, pl 0, 0), (0, 0, 0), (0, sec, 0), (2, pl 31, 0), (0, 0, 0), (0, 1, 0), (0, 0, 0), (0, 105, 0), (0, 16, 0)]) xc126_442 rfl (by decide) (by rw [xl126]; rfl) rfl (by decide) rfl) ?_
  refine sy_Fs (sy_goto (pc' := 405) xc126_445 (by decide) (by decide) sy_refl) ?_
  refine sy_Fs (sy_ild xc126_405 rfl rfl sy_refl) ?_
  refine sy_Fs (sy_bipush (v := 32) xc126_407 (by decide) (by decide) sy_refl) ?_
  refine sy_Fs (sy_ge_f xc126_409 (by decide) (by decide) (by decide) sy_refl) ?_
  refine sy_Fs (sy_aldn xc126_412 rfl rfl sy_refl) ?_
  refine sy_Fs (sy_gf xc126_413 xf126_382 rfl (wh_at hw 0 rfl) rfl (fh_at hX0 10 rfl rfl) sy_refl) ?_
  refine sy_Fs (sy_ild xc126_416 rfl rfl sy_refl) ?_
  refine sy_Fs (sy_ild xc126_418 rfl rfl sy_refl) ?_
  refine sy_Fs (sx_iadd (z := 121) xc126_420 (by decide)) ?_
  refine sy_Fs (sy_ildn xc126_421 rfl rfl sy_refl) ?_
  refine sy_Fs (sy_ifge_t (pc' := 429) xc126_422 (by decide) (by decide) (by decide) sy_refl) ?_
  refine sy_Fs (sy_aldn xc126_429 rfl rfl sy_refl) ?_
  refine sy_Fs (sy_gf xc126_430 xf126_385 rfl (wh_at hw 0 rfl) rfl (fh_at hX0 11 rfl rfl) sy_refl) ?_
  refine sy_Fs (sy_bipush (v := 32) xc126_433 (by decide) (by decide) sy_refl) ?_
  refine sy_Fs (sy_ildn xc126_435 rfl rfl sy_refl) ?_
  refine sy_Fs (sx_imul (z := 0) xc126_436 (by decide)) ?_
  refine sy_Fs (sy_ild xc126_437 rfl rfl sy_refl) ?_
  refine sy_Fs (sx_iadd (z := 16) xc126_439 (by decide)) ?_
  refine sy_Fs (sx_bal (z := (mv_rd 32 Bi 16)) xc126_440 (wh_at hw 9 rfl) (by decide) (by decide) rfl) ?_
  refine sy_Fw (i := 8) (x := (1, 1, 4200, (hc Hd Bi 17))) hw (by decide) (sy_bas (i := 121) xc126_441 (wh_at hw 8 rfl) rfl (by decide) (by decide) rfl sy_refl) ?_
  intro w hw
  simp only [List.set_cons_zero, List.set_cons_succ] at hw
  refine sy_Fs (sx_iinc (c := 1) (z := 17) (ls' := [(2, pl 0, 0), (0, 0, 0), (0, sec, 0), (2, pl 31, 0), (0, 0, 0), (0, 1, 0), (0, 0, 0), (0, 105, 0), (0, 17, 0)]) xc126_442 rfl (by decide) (by rw [xl126]; rfl) rfl (by decide) rfl) ?_
  refine sy_Fs (sy_goto (pc' := 405) xc126_445 (by decide) (by decide) sy_refl) ?_
  refine sy_Fs (sy_ild xc126_405 rfl rfl sy_refl) ?_
  refine sy_Fs (sy_bipush (v := 32) xc126_407 (by decide) (by decide) sy_refl) ?_
  refine sy_Fs (sy_ge_f xc126_409 (by decide) (by decide) (by decide) sy_refl) ?_
  refine sy_Fs (sy_aldn xc126_412 rfl rfl sy_refl) ?_
  refine sy_Fs (sy_gf xc126_413 xf126_382 rfl (wh_at hw 0 rfl) rfl (fh_at hX0 10 rfl rfl) sy_refl) ?_
  refine sy_Fs (sy_ild xc126_416 rfl rfl sy_refl) ?_
  refine sy_Fs (sy_ild xc126_418 rfl rfl sy_refl) ?_
  refine sy_Fs (sx_iadd (z := 122) xc126_420 (by decide)) ?_
  refine sy_Fs (sy_ildn xc126_421 rfl rfl sy_refl) ?_
  refine sy_Fs (sy_ifge_t (pc' := 429) xc126_422 (by decide) (by decide) (by decide) sy_refl) ?_
  refine sy_Fs (sy_aldn xc126_429 rfl rfl sy_refl) ?_
  refine sy_Fs (sy_gf xc126_430 xf126_385 rfl (wh_at hw 0 rfl) rfl (fh_at hX0 11 rfl rfl) sy_refl) ?_
  refine sy_Fs (sy_bipush (v := 32) xc126_433 (by decide) (by decide) sy_refl) ?_
  refine sy_Fs (sy_ildn xc126_435 rfl rfl sy_refl) ?_
  refine sy_Fs (sx_imul (z := 0) xc126_436 (by decide)) ?_
  refine sy_Fs (sy_ild xc126_437 rfl rfl sy_refl) ?_
  refine sy_Fs (sx_iadd (z := 17) xc126_439 (by decide)) ?_
  refine sy_Fs (sx_bal (z := (mv_rd 32 Bi 17)) xc126_440 (wh_at hw 9 rfl) (by decide) (by decide) rfl) ?_
  refine sy_Fw (i := 8) (x := (1, 1, 4200, (hc Hd Bi 18))) hw (by decide) (sy_bas (i := 122) xc126_441 (wh_at hw 8 rfl) rfl (by decide) (by decide) rfl sy_refl) ?_
  intro w hw
  simp only [List.set_cons_zero, List.set_cons_succ] at hw
  refine sy_Fs (sx_iinc (c := 1) (z := 18) (ls' := [(2, pl 0, 0), (0, 0, 0), (0, sec, 0), (2, pl 31, 0), (0, 0, 0), (0, 1, 0), (0, 0, 0), (0, 105, 0), (0, 18, 0)]) xc126_442 rfl (by decide) (by rw [xl126]; rfl) rfl (by decide) rfl) ?_
  refine sy_Fs (sy_goto (pc' := 405) xc126_445 (by decide) (by decide) sy_refl) ?_
  refine sy_Fs (sy_ild xc126_405 rfl rfl sy_refl) ?_
  refine sy_Fs (sy_bipush (v := 32) xc126_407 (by decide) (by decide) sy_refl) ?_
  refine sy_Fs (sy_ge_f xc126_409 (by decide) (by decide) (by decide) sy_refl) ?_
  refine sy_Fs (sy_aldn xc126_412 rfl rfl sy_refl) ?_
  refine sy_Fs (sy_gf xc126_413 xf126_382 rfl (wh_at hw 0 rfl) rfl (fh_at hX0 10 rfl rfl) sy_refl) ?_
  refine sy_Fs (sy_ild xc126_416 rfl rfl sy_refl) ?_
  refine sy_Fs (sy_ild xc126_418 rfl rfl sy_refl) ?_
  refine sy_Fs (sx_iadd (z := 123) xc126_420 (by decide)) ?_
  refine sy_Fs (sy_ildn xc126_421 rfl rfl sy_refl) ?_
  refine sy_Fs (sy_ifge_t (pc' := 429) xc126_422 (by decide) (by decide) (by decide) sy_refl) ?_
  refine sy_Fs (sy_aldn xc126_429 rfl rfl sy_refl) ?_
  refine sy_Fs (sy_gf xc126_430 xf126_385 rfl (wh_at hw 0 rfl) rfl (fh_at hX0 11 rfl rfl) sy_refl) ?_
  refine sy_Fs (sy_bipush (v := 32) xc126_433 (by decide) (by decide) sy_refl) ?_
  refine sy_Fs (sy_ildn xc126_435 rfl rfl sy_refl) ?_
  refine sy_Fs (sx_imul (z := 0) xc126_436 (by decide)) ?_
  refine sy_Fs (sy_ild xc126_437 rfl rfl sy_refl) ?_
  refine sy_Fs (sx_iadd (z := 18) xc126_439 (by decide)) ?_
  refine sy_Fs (sx_bal (z := (mv_rd 32 Bi 18)) xc126_440 (wh_at hw 9 rfl) (by decide) (by decide) rfl) ?_
  refine sy_Fw (i := 8) (x := (1, 1, 4200, (hc Hd Bi 19))) hw (by decide) (sy_bas (i := 123) xc126_441 (wh_at hw 8 rfl) rfl (by decide) (by decide) rfl sy_refl) ?_
  intro w hw
  simp only [List.set_cons_zero, List.set_cons_succ] at hw
  refine sy_Fs (sx_iinc (c := 1) (z := 19) (ls' := [(2, pl 0, 0), (0, 0, 0), (0, sec, 0), (2, pl 31, 0), (0, 0, 0), (0, 1, 0), (0, 0, 0), (0, 105, 0), (0, 19, 0)]) xc126_442 rfl (by decide) (by rw [xl126]; rfl) rfl (by decide) rfl) ?_
  refine sy_Fs (sy_goto (pc' := 405) xc126_445 (by decide) (by decide) sy_refl) ?_
  refine sy_Fs (sy_ild xc126_405 rfl rfl sy_refl) ?_
  refine sy_Fs (sy_bipush (v := 32) xc126_407 (by decide) (by decide) sy_refl) ?_
  refine sy_Fs (sy_ge_f xc126_409 (by decide) (by decide) (by decide) sy_refl) ?_
  refine sy_Fs (sy_aldn xc126_412 rfl rfl sy_refl) ?_
  refine sy_Fs (sy_gf xc126_413 xf126_382 rfl (wh_at hw 0 rfl) rfl (fh_at hX0 10 rfl rfl) sy_refl) ?_
  refine sy_Fs (sy_ild xc126_416 rfl rfl sy_refl) ?_
  refine sy_Fs (sy_ild xc126_418 rfl rfl sy_refl) ?_
  refine sy_Fs (sx_iadd (z := 124) xc126_420 (by decide)) ?_
  refine sy_Fs (sy_ildn xc126_421 rfl rfl sy_refl) ?_
  refine sy_Fs (sy_ifge_t (pc' := 429) xc126_422 (by decide) (by decide) (by decide) sy_refl) ?_
  refine sy_Fs (sy_aldn xc126_429 rfl rfl sy_refl) ?_
  refine sy_Fs (sy_gf xc126_430 xf126_385 rfl (wh_at hw 0 rfl) rfl (fh_at hX0 11 rfl rfl) sy_refl) ?_
  refine sy_Fs (sy_bipush (v := 32) xc126_433 (by decide) (by decide) sy_refl) ?_
  refine sy_Fs (sy_ildn xc126_435 rfl rfl sy_refl) ?_
  refine sy_Fs (sx_imul (z := 0) xc126_436 (by decide)) ?_
  refine sy_Fs (sy_ild xc126_437 rfl rfl sy_refl) ?_
  refine sy_Fs (sx_iadd (z := 19) xc126_439 (by decide)) ?_
  refine sy_Fs (sx_bal (z := (mv_rd 32 Bi 19)) xc126_440 (wh_at hw 9 rfl) (by decide) (by decide) rfl) ?_
  refine sy_Fw (i := 8) (x := (1, 1, 4200, (hc Hd Bi 20))) hw (by decide) (sy_bas (i := 124) xc126_441 (wh_at hw 8 rfl) rfl (by decide) (by decide) rfl sy_refl) ?_
  intro w hw
  simp only [List.set_cons_zero, List.set_cons_succ] at hw
  refine sy_Fs (sx_iinc (c := 1) (z := 20) (ls' := [(2, pl 0, 0), (0, 0, 0), (0, sec, 0), (2, pl 31, 0), (0, 0, 0), (0, 1, 0), (0, 0, 0), (0, 105, 0), (0, 20, 0)]) xc126_442 rfl (by decide) (by rw [xl126]; rfl) rfl (by decide) rfl) ?_
  refine sy_Fs (sy_goto (pc' := 405) xc126_445 (by decide) (by decide) sy_refl) ?_
  refine sy_Fs (sy_ild xc126_405 rfl rfl sy_refl) ?_
  refine sy_Fs (sy_bipush (v := 32) xc126_407 (by decide) (by decide) sy_refl) ?_
  refine sy_Fs (sy_ge_f xc126_409 (by decide) (by decide) (by decide) sy_refl) ?_
  refine sy_Fs (sy_aldn xc126_412 rfl rfl sy_refl) ?_
  refine sy_Fs (sy_gf xc126_413 xf126_382 rfl (wh_at hw 0 rfl) rfl (fh_at hX0 10 rfl rfl) sy_refl) ?_
  refine sy_Fs (sy_ild xc126_416 rfl rfl sy_refl) ?_
  refine sy_Fs (sy_ild xc126_418 rfl rfl sy_refl) ?_
  refine sy_Fs (sx_iadd (z := 125) xc126_420 (by decide)) ?_
  refine sy_Fs (sy_ildn xc126_421 rfl rfl sy_refl) ?_
  refine sy_Fs (sy_ifge_t (pc' := 429) xc126_422 (by decide) (by decide) (by decide) sy_refl) ?_
  refine sy_Fs (sy_aldn xc126_429 rfl rfl sy_refl) ?_
  refine sy_Fs (sy_gf xc126_430 xf126_385 rfl (wh_at hw 0 rfl) rfl (fh_at hX0 11 rfl rfl) sy_refl) ?_
  refine sy_Fs (sy_bipush (v := 32) xc126_433 (by decide) (by decide) sy_refl) ?_
  refine sy_Fs (sy_ildn xc126_435 rfl rfl sy_refl) ?_
  refine sy_Fs (sx_imul (z := 0) xc126_436 (by decide)) ?_
  refine sy_Fs (sy_ild xc126_437 rfl rfl sy_refl) ?_
  refine sy_Fs (sx_iadd (z := 20) xc126_439 (by decide)) ?_
  refine sy_Fs (sx_bal (z := (mv_rd 32 Bi 20)) xc126_440 (wh_at hw 9 rfl) (by decide) (by decide) rfl) ?_
  refine sy_Fw (i := 8) (x := (1, 1, 4200, (hc Hd Bi 21))) hw (by decide) (sy_bas (i := 125) xc126_441 (wh_at hw 8 rfl) rfl (by decide) (by decide) rfl sy_refl) ?_
  intro w hw
  simp only [List.set_cons_zero, List.set_cons_succ] at hw
  refine sy_Fs (sx_iinc (c := 1) (z := 21) (ls' := [(2, pl 0, 0), (0, 0, 0), (0, sec, 0), (2, pl 31, 0), (0, 0, 0), (0, 1, 0), (0, 0, 0), (0, 105, 0), (0, 21, 0)]) xc126_442 rfl (by decide) (by rw [xl126]; rfl) rfl (by decide) rfl) ?_
  refine sy_Fs (sy_goto (pc' := 405) xc126_445 (by decide) (by decide) sy_refl) ?_
  refine sy_Fs (sy_ild xc126_405 rfl rfl sy_refl) ?_
  refine sy_Fs (sy_bipush (v := 32) xc126_407 (by decide) (by decide) sy_refl) ?_
  refine sy_Fs (sy_ge_f xc126_409 (by decide) (by decide) (by decide) sy_refl) ?_
  refine sy_Fs (sy_aldn xc126_412 rfl rfl sy_refl) ?_
  refine sy_Fs (sy_gf xc126_413 xf126_382 rfl (wh_at hw 0 rfl) rfl (fh_at hX0 10 rfl rfl) sy_refl) ?_
  refine sy_Fs (sy_ild xc126_416 rfl rfl sy_refl) ?_
  refine sy_Fs (sy_ild xc126_418 rfl rfl sy_refl) ?_
  refine sy_Fs (sx_iadd (z := 126) xc126_420 (by decide)) ?_
  refine sy_Fs (sy_ildn xc126_421 rfl rfl sy_refl) ?_
  refine sy_Fs (sy_ifge_t (pc' := 429) xc126_422 (by decide) (by decide) (by decide) sy_refl) ?_
  refine sy_Fs (sy_aldn xc126_429 rfl rfl sy_refl) ?_
  refine sy_Fs (sy_gf xc126_430 xf126_385 rfl (wh_at hw 0 rfl) rfl (fh_at hX0 11 rfl rfl) sy_refl) ?_
  refine sy_Fs (sy_bipush (v := 32) xc126_433 (by decide) (by decide) sy_refl) ?_
  refine sy_Fs (sy_ildn xc126_435 rfl rfl sy_refl) ?_
  refine sy_Fs (sx_imul (z := 0) xc126_436 (by decide)) ?_
  refine sy_Fs (sy_ild xc126_437 rfl rfl sy_refl) ?_
  refine sy_Fs (sx_iadd (z := 21) xc126_439 (by decide)) ?_
  refine sy_Fs (sx_bal (z := (mv_rd 32 Bi 21)) xc126_440 (wh_at hw 9 rfl) (by decide) (by decide) rfl) ?_
  refine sy_Fw (i := 8) (x := (1, 1, 4200, (hc Hd Bi 22))) hw (by decide) (sy_bas (i := 126) xc126_441 (wh_at hw 8 rfl) rfl (by decide) (by decide) rfl sy_refl) ?_
  intro w hw
  simp only [List.set_cons_zero, List.set_cons_succ] at hw
  refine sy_Fs (sx_iinc (c := 1) (z := 22) (ls' := [(2, pl 0, 0), (0, 0, 0), (0, sec, 0), (2, pl 31, 0), (0, 0, 0), (0, 1, 0), (0, 0, 0), (0, 105, 0), (0, 22, 0)]) xc126_442 rfl (by decide) (by rw [xl126]; rfl) rfl (by decide) rfl) ?_
  refine sy_Fs (sy_goto (pc' := 405) xc126_445 (by decide) (by decide) sy_refl) ?_
  refine sy_Fs (sy_ild xc126_405 rfl rfl sy_refl) ?_
  refine sy_Fs (sy_bipush (v := 32) xc126_407 (by decide) (by decide) sy_refl) ?_
  refine sy_Fs (sy_ge_f xc126_409 (by decide) (by decide) (by decide) sy_refl) ?_
  refine sy_Fs (sy_aldn xc126_412 rfl rfl sy_refl) ?_
  refine sy_Fs (sy_gf xc126_413 xf126_382 rfl (wh_at hw 0 rfl) rfl (fh_at hX0 10 rfl rfl) sy_refl) ?_
  refine sy_Fs (sy_ild xc126_416 rfl rfl sy_refl) ?_
  refine sy_Fs (sy_ild xc126_418 rfl rfl sy_refl) ?_
  refine sy_Fs (sx_iadd (z := 127) xc126_420 (by decide)) ?_
  refine sy_Fs (sy_ildn xc126_421 rfl rfl sy_refl) ?_
  refine sy_Fs (sy_ifge_t (pc' := 429) xc126_422 (by decide) (by decide) (by decide) sy_refl) ?_
  refine sy_Fs (sy_aldn xc126_429 rfl rfl sy_refl) ?_
  refine sy_Fs (sy_gf xc126_430 xf126_385 rfl (wh_at hw 0 rfl) rfl (fh_at hX0 11 rfl rfl) sy_refl) ?_
  refine sy_Fs (sy_bipush (v := 32) xc126_433 (by decide) (by decide) sy_refl) ?_
  refine sy_Fs (sy_ildn xc126_435 rfl rfl sy_refl) ?_
  refine sy_Fs (sx_imul (z := 0) xc126_436 (by decide)) ?_
  refine sy_Fs (sy_ild xc126_437 rfl rfl sy_refl) ?_
  refine sy_Fs (sx_iadd (z := 22) xc126_439 (by decide)) ?_
  refine sy_Fs (sx_bal (z := (mv_rd 32 Bi 22)) xc126_440 (wh_at hw 9 rfl) (by decide) (by decide) rfl) ?_
  refine sy_Fw (i := 8) (x := (1, 1, 4200, (hc Hd Bi 23))) hw (by decide) (sy_bas (i := 127) xc126_441 (wh_at hw 8 rfl) rfl (by decide) (by decide) rfl sy_refl) ?_
  intro w hw
  simp only [List.set_cons_zero, List.set_cons_succ] at hw
  refine sy_Fs (sx_iinc (c := 1) (z := 23) (ls' := [(2, pl 0, 0), (0, 0, 0), (0, sec, 0), (2, pl 31, 0), (0, 0, 0), (0, 1, 0), (0, 0, 0), (0, 105, 0), (0, 23, 0)]) xc126_442 rfl (by decide) (by rw [xl126]; rfl) rfl (by decide) rfl) ?_
  refine sy_Fs (sy_goto (pc' := 405) xc126_445 (by decide) (by decide) sy_refl) ?_
  refine sy_Fs (sy_ild xc126_405 rfl rfl sy_refl) ?_
  refine sy_Fs (sy_bipush (v := 32) xc126_407 (by decide) (by decide) sy_refl) ?_
  refine sy_Fs (sy_ge_f xc126_409 (by decide) (by decide) (by decide) sy_refl) ?_
  refine sy_Fs (sy_aldn xc126_412 rfl rfl sy_refl) ?_
  refine sy_Fs (sy_gf xc126_413 xf126_382 rfl (wh_at hw 0 rfl) rfl (fh_at hX0 10 rfl rfl) sy_refl) ?_
  refine sy_Fs (sy_ild xc126_416 rfl rfl sy_refl) ?_
  refine sy_Fs (sy_ild xc126_418 rfl rfl sy_refl) ?_
  refine sy_Fs (sx_iadd (z := 128) xc126_420 (by decide)) ?_
  refine sy_Fs (sy_ildn xc126_421 rfl rfl sy_refl) ?_
  refine sy_Fs (sy_ifge_t (pc' := 429) xc126_422 (by decide) (by decide) (by decide) sy_refl) ?_
  refine sy_Fs (sy_aldn xc126_429 rfl rfl sy_refl) ?_
  refine sy_Fs (sy_gf xc126_430 xf126_385 rfl (wh_at hw 0 rfl) rfl (fh_at hX0 11 rfl rfl) sy_refl) ?_
  refine sy_Fs (sy_bipush (v := 32) xc126_433 (by decide) (by decide) sy_refl) ?_
  refine sy_Fs (sy_ildn xc126_435 rfl rfl sy_refl) ?_
  refine sy_Fs (sx_imul (z := 0) xc126_436 (by decide)) ?_
  refine sy_Fs (sy_ild xc126_437 rfl rfl sy_refl) ?_
  refine sy_Fs (sx_iadd (z := 23) xc126_439 (by decide)) ?_
  refine sy_Fs (sx_bal (z := (mv_rd 32 Bi 23)) xc126_440 (wh_at hw 9 rfl) (by decide) (by decide) rfl) ?_
  refine sy_Fw (i := 8) (x := (1, 1, 4200, (hc Hd Bi 24))) hw (by decide) (sy_bas (i := 128) xc126_441 (wh_at hw 8 rfl) rfl (by decide) (by decide) rfl sy_refl) ?_
  intro w hw
  simp only [List.set_cons_zero, List.set_cons_succ] at hw
  refine sy_Fs (sx_iinc (c := 1) (z := 24) (ls' := [(2, pl 0, 0), (0, 0, 0), (0, sec, 0), (2, pl 31, 0), (0, 0, 0), (0, 1, 0), (0, 0, 0), (0, 105, 0), (0, 24, 0)]) xc126_442 rfl (by decide) (by rw [xl126]; rfl) rfl (by decide) rfl) ?_
  refine sy_Fs (sy_goto (pc' := 405) xc126_445 (by decide) (by decide) sy_refl) ?_
  refine sy_Fs (sy_ild xc126_405 rfl rfl sy_refl) ?_
  refine sy_Fs (sy_bipush (v := 32) xc126_407 (by decide) (by decide) sy_refl) ?_
  refine sy_Fs (sy_ge_f xc126_409 (by decide) (by decide) (by decide) sy_refl) ?_
  refine sy_Fs (sy_aldn xc126_412 rfl rfl sy_refl) ?_
  refine sy_Fs (sy_gf xc126_413 xf126_382 rfl (wh_at hw 0 rfl) rfl (fh_at hX0 10 rfl rfl) sy_refl) ?_
  refine sy_Fs (sy_ild xc126_416 rfl rfl sy_refl) ?_
  refine sy_Fs (sy_ild xc126_418 rfl rfl sy_refl) ?_
  refine sy_Fs (sx_iadd (z := 129) xc126_420 (by decide)) ?_
  refine sy_Fs (sy_ildn xc126_421 rfl rfl sy_refl) ?_
  refine sy_Fs (sy_ifge_t (pc' := 429) xc126_422 (by decide) (by decide) (by decide) sy_refl) ?_
  refine sy_Fs (sy_aldn xc126_429 rfl rfl sy_refl) ?_
  refine sy_Fs (sy_gf xc126_430 xf126_385 rfl (wh_at hw 0 rfl) rfl (fh_at hX0 11 rfl rfl) sy_refl) ?_
  refine sy_Fs (sy_bipush (v := 32) xc126_433 (by decide) (by decide) sy_refl) ?_
  refine sy_Fs (sy_ildn xc126_435 rfl rfl sy_refl) ?_
  refine sy_Fs (sx_imul (z := 0) xc126_436 (by decide)) ?_
  refine sy_Fs (sy_ild xc126_437 rfl rfl sy_refl) ?_
  refine sy_Fs (sx_iadd (z := 24) xc126_439 (by decide)) ?_
  refine sy_Fs (sx_bal (z := (mv_rd 32 Bi 24)) xc126_440 (wh_at hw 9 rfl) (by decide) (by decide) rfl) ?_
  refine sy_Fw (i := 8) (x := (1, 1, 4200, (hc Hd Bi 25))) hw (by decide) (sy_bas (i := 129) xc126_441 (wh_at hw 8 rfl) rfl (by decide) (by decide) rfl sy_refl) ?_
  intro w hw
  simp only [List.set_cons_zero, List.set_cons_succ] at hw
  refine sy_Fs (sx_iinc (c := 1) (z := 25) (ls' := [(2, pl 0, 0), (0, 0, 0), (0, sec, 0), (2, pl 31, 0), (0, 0, 0), (0, 1, 0), (0, 0, 0), (0, 105, 0), (0, 25, 0)]) xc126_442 rfl (by decide) (by rw [xl126]; rfl) rfl (by decide) rfl) ?_
  refine sy_Fs (sy_goto (pc' := 405) xc126_445 (by decide) (by decide) sy_refl) ?_
  refine sy_Fs (sy_ild xc126_405 rfl rfl sy_refl) ?_
  refine sy_Fs (sy_bipush (v := 32) xc126_407 (by decide) (by decide) sy_refl) ?_
  refine sy_Fs (sy_ge_f xc126_409 (by decide) (by decide) (by decide) sy_refl) ?_
  refine sy_Fs (sy_aldn xc126_412 rfl rfl sy_refl) ?_
  refine sy_Fs (sy_gf xc126_413 xf126_382 rfl (wh_at hw 0 rfl) rfl (fh_at hX0 10 rfl rfl) sy_refl) ?_
  refine sy_Fs (sy_ild xc126_416 rfl rfl sy_refl) ?_
  refine sy_Fs (sy_ild xc126_418 rfl rfl sy_refl) ?_
  refine sy_Fs (sx_iadd (z := 130) xc126_420 (by decide)) ?_
  refine sy_Fs (sy_ildn xc126_421 rfl rfl sy_refl) ?_
  refine sy_Fs (sy_ifge_t (pc' := 429) xc126_422 (by decide) (by decide) (by decide) sy_refl) ?_
  refine sy_Fs (sy_aldn xc126_429 rfl rfl sy_refl) ?_
  refine sy_Fs (sy_gf xc126_430 xf126_385 rfl (wh_at hw 0 rfl) rfl (fh_at hX0 11 rfl rfl) sy_refl) ?_
  refine sy_Fs (sy_bipush (v := 32) xc126_433 (by decide) (by decide) sy_refl) ?_
  refine sy_Fs (sy_ildn xc126_435 rfl rfl sy_refl) ?_
  refine sy_Fs (sx_imul (z := 0) xc126_436 (by decide)) ?_
  refine sy_Fs (sy_ild xc126_437 rfl rfl sy_refl) ?_
  refine sy_Fs (sx_iadd (z := 25) xc126_439 (by decide)) ?_
  refine sy_Fs (sx_bal (z := (mv_rd 32 Bi 25)) xc126_440 (wh_at hw 9 rfl) (by decide) (by decide) rfl) ?_
  refine sy_Fw (i := 8) (x := (1, 1, 4200, (hc Hd Bi 26))) hw (by decide) (sy_bas (i := 130) xc126_441 (wh_at hw 8 rfl) rfl (by decide) (by decide) rfl sy_refl) ?_
  intro w hw
  simp only [List.set_cons_zero, List.set_cons_succ] at hw
  refine sy_Fs (sx_iinc (c := 1) (z := 26) (ls' := [(2, pl 0, 0), (0, 0, 0), (0, sec, 0), (2, pl 31, 0), (0, 0, 0), (0, 1, 0), (0, 0, 0), (0, 105, 0), (0, 26, 0)]) xc126_442 rfl (by decide) (by rw [xl126]; rfl) rfl (by decide) rfl) ?_
  refine sy_Fs (sy_goto (pc' := 405) xc126_445 (by decide) (by decide) sy_refl) ?_
  refine sy_Fs (sy_ild xc126_405 rfl rfl sy_refl) ?_
  refine sy_Fs (sy_bipush (v := 32) xc126_407 (by decide) (by decide) sy_refl) ?_
  refine sy_Fs (sy_ge_f xc126_409 (by decide) (by decide) (by decide) sy_refl) ?_
  refine sy_Fs (sy_aldn xc126_412 rfl rfl sy_refl) ?_
  refine sy_Fs (sy_gf xc126_413 xf126_382 rfl (wh_at hw 0 rfl) rfl (fh_at hX0 10 rfl rfl) sy_refl) ?_
  refine sy_Fs (sy_ild xc126_416 rfl rfl sy_refl) ?_
  refine sy_Fs (sy_ild xc126_418 rfl rfl sy_refl) ?_
  refine sy_Fs (sx_iadd (z := 131) xc126_420 (by decide)) ?_
  refine sy_Fs (sy_ildn xc126_421 rfl rfl sy_refl) ?_
  refine sy_Fs (sy_ifge_t (pc' := 429) xc126_422 (by decide) (by decide) (by decide) sy_refl) ?_
  refine sy_Fs (sy_aldn xc126_429 rfl rfl sy_refl) ?_
  refine sy_Fs (sy_gf xc126_430 xf126_385 rfl (wh_at hw 0 rfl) rfl (fh_at hX0 11 rfl rfl) sy_refl) ?_
  refine sy_Fs (sy_bipush (v := 32) xc126_433 (by decide) (by decide) sy_refl) ?_
  refine sy_Fs (sy_ildn xc126_435 rfl rfl sy_refl) ?_
  refine sy_Fs (sx_imul (z := 0) xc126_436 (by decide)) ?_
  refine sy_Fs (sy_ild xc126_437 rfl rfl sy_refl) ?_
  refine sy_Fs (sx_iadd (z := 26) xc126_439 (by decide)) ?_
  refine sy_Fs (sx_bal (z := (mv_rd 32 Bi 26)) xc126_440 (wh_at hw 9 rfl) (by decide) (by decide) rfl) ?_
  refine sy_Fw (i := 8) (x := (1, 1, 4200, (hc Hd Bi 27))) hw (by decide) (sy_bas (i := 131) xc126_441 (wh_at hw 8 rfl) rfl (by decide) (by decide) rfl sy_refl) ?_
  intro w hw
  simp only [List.set_cons_zero, List.set_cons_succ] at hw
  refine sy_Fs (sx_iinc (c := 1) (z := 27) (ls' := [(2, pl 0, 0), (0, 0, 0), (0, sec, 0), (2, pl 31, 0), (0, 0, 0), (0, 1, 0), (0, 0, 0), (0, 105, 0), (0, 27, 0)]) xc126_442 rfl (by decide) (by rw [xl126]; rfl) rfl (by decide) rfl) ?_
  refine sy_Fs (sy_goto (pc' := 405) xc126_445 (by decide) (by decide) sy_refl) ?_
  refine sy_Fs (sy_ild xc126_405 rfl rfl sy_refl) ?_
  refine sy_Fs (sy_bipush (v := 32) xc126_407 (by decide) (by decide) sy_refl) ?_
  refine sy_Fs (sy_ge_f xc126_409 (by decide) (by decide) (by decide) sy_refl) ?_
  refine sy_Fs (sy_aldn xc126_412 rfl rfl sy_refl) ?_
  refine sy_Fs (sy_gf xc126_413 xf126_382 rfl (wh_at hw 0 rfl) rfl (fh_at hX0 10 rfl rfl) sy_refl) ?_
  refine sy_Fs (sy_ild xc126_416 rfl rfl sy_refl) ?_
  refine sy_Fs (sy_ild xc126_418 rfl rfl sy_refl) ?_
  refine sy_Fs (sx_iadd (z := 132) xc126_420 (by decide)) ?_
  refine sy_Fs (sy_ildn xc126_421 rfl rfl sy_refl) ?_
  refine sy_Fs (sy_ifge_t (pc' := 429) xc126_422 (by decide) (by decide) (by decide) sy_refl) ?_
  refine sy_Fs (sy_aldn xc126_429 rfl rfl sy_refl) ?_
  refine sy_Fs (sy_gf xc126_430 xf126_385 rfl (wh_at hw 0 rfl) rfl (fh_at hX0 11 rfl rfl) sy_refl) ?_
  refine sy_Fs (sy_bipush (v := 32) xc126_433 (by decide) (by decide) sy_refl) ?_
  refine sy_Fs (sy_ildn xc126_435 rfl rfl sy_refl) ?_
  refine sy_Fs (sx_imul (z := 0) xc126_436 (by decide)) ?_
  refine sy_Fs (sy_ild xc126_437 rfl rfl sy_refl) ?_
  refine sy_Fs (sx_iadd (z := 27) xc126_439 (by decide)) ?_
  refine sy_Fs (sx_bal (z := (mv_rd 32 Bi 27)) xc126_440 (wh_at hw 9 rfl) (by decide) (by decide) rfl) ?_
  refine sy_Fw (i := 8) (x := (1, 1, 4200, (hc Hd Bi 28))) hw (by decide) (sy_bas (i := 132) xc126_441 (wh_at hw 8 rfl) rfl (by decide) (by decide) rfl sy_refl) ?_
  intro w hw
  simp only [List.set_cons_zero, List.set_cons_succ] at hw
  refine sy_Fs (sx_iinc (c := 1) (z := 28) (ls' := [(2, pl 0, 0), (0, 0, 0), (0, sec, 0), (2, pl 31, 0), (0, 0, 0), (0, 1, 0), (0, 0, 0), (0, 105, 0), (0, 28, 0)]) xc126_442 rfl (by decide) (by rw [xl126]; rfl) rfl (by decide) rfl) ?_
  refine sy_Fs (sy_goto (pc' := 405) xc126_445 (by decide) (by decide) sy_refl) ?_
  refine sy_Fs (sy_ild xc126_405 rfl rfl sy_refl) ?_
  refine sy_Fs (sy_bipush (v := 32) xc126_407 (by decide) (by decide) sy_refl) ?_
  refine sy_Fs (sy_ge_f xc126_409 (by decide) (by decide) (by decide) sy_refl) ?_
  refine sy_Fs (sy_aldn xc126_412 rfl rfl sy_refl) ?_
  refine sy_Fs (sy_gf xc126_413 xf126_382 rfl (wh_at hw 0 rfl) rfl (fh_at hX0 10 rfl rfl) sy_refl) ?_
  refine sy_Fs (sy_ild xc126_416 rfl rfl sy_refl) ?_
  refine sy_Fs (sy_ild xc126_418 rfl rfl sy_refl) ?_
  refine sy_Fs (sx_iadd (z := 133) xc126_420 (by decide)) ?_
  refine sy_Fs (sy_ildn xc126_421 rfl rfl sy_refl) ?_
  refine sy_Fs (sy_ifge_t (pc' := 429) xc126_422 (by decide) (by decide) (by decide) sy_refl) ?_
  refine sy_Fs (sy_aldn xc126_429 rfl rfl sy_refl) ?_
  refine sy_Fs (sy_gf xc126_430 xf126_385 rfl (wh_at hw 0 rfl) rfl (fh_at hX0 11 rfl rfl) sy_refl) ?_
  refine sy_Fs (sy_bipush (v := 32) xc126_433 (by decide) (by decide) sy_refl) ?_
  refine sy_Fs (sy_ildn xc126_435 rfl rfl sy_refl) ?_
  refine sy_Fs (sx_imul (z := 0) xc126_436 (by decide)) ?_
  refine sy_Fs (sy_ild xc126_437 rfl rfl sy_refl) ?_
  refine sy_Fs (sx_iadd (z := 28) xc126_439 (by decide)) ?_
  refine sy_Fs (sx_bal (z := (mv_rd 32 Bi 28)) xc126_440 (wh_at hw 9 rfl) (by decide) (by decide) rfl) ?_
  refine sy_Fw (i := 8) (x := (1, 1, 4200, (hc Hd Bi 29))) hw (by decide) (sy_bas (i := 133) xc126_441 (wh_at hw 8 rfl) rfl (by decide) (by decide) rfl sy_refl) ?_
  intro w hw
  simp only [List.set_cons_zero, List.set_cons_succ] at hw
  refine sy_Fs (sx_iinc (c := 1) (z := 29) (ls' := [(2, pl 0, 0), (0, 0, 0), (0, sec, 0), (2, pl 31, 0), (0, 0, 0), (0, 1, 0), (0, 0, 0), (0, 105, 0), (0, 29, 0)]) xc126_442 rfl (by decide) (by rw [xl126]; rfl) rfl (by decide) rfl) ?_
  refine sy_Fs (sy_goto (pc' := 405) xc126_445 (by decide) (by decide) sy_refl) ?_
  refine sy_Fs (sy_ild xc126_405 rfl rfl sy_refl) ?_
  refine sy_Fs (sy_bipush (v := 32) xc126_407 (by decide) (by decide) sy_refl) ?_
  refine sy_Fs (sy_ge_f xc126_409 (by decide) (by decide) (by decide) sy_refl) ?_
  refine sy_Fs (sy_aldn xc126_412 rfl rfl sy_refl) ?_
  refine sy_Fs (sy_gf xc126_413 xf126_382 rfl (wh_at hw 0 rfl) rfl (fh_at hX0 10 rfl rfl) sy_refl) ?_
  refine sy_Fs (sy_ild xc126_416 rfl rfl sy_refl) ?_
  refine sy_Fs (sy_ild xc126_418 rfl rfl sy_refl) ?_
  refine sy_Fs (sx_iadd (z := 134) xc126_420 (by decide)) ?_
  refine sy_Fs (sy_ildn xc126_421 rfl rfl sy_refl) ?_
  refine sy_Fs (sy_ifge_t (pc' := 429) xc126_422 (by decide) (by decide) (by decide) sy_refl) ?_
  refine sy_Fs (sy_aldn xc126_429 rfl rfl sy_refl) ?_
  refine sy_Fs (sy_gf xc126_430 xf126_385 rfl (wh_at hw 0 rfl) rfl (fh_at hX0 11 rfl rfl) sy_refl) ?_
  refine sy_Fs (sy_bipush (v := 32) xc126_433 (by decide) (by decide) sy_refl) ?_
  refine sy_Fs (sy_ildn xc126_435 rfl rfl sy_refl) ?_
  refine sy_Fs (sx_imul (z := 0) xc126_436 (by decide)) ?_
  refine sy_Fs (sy_ild xc126_437 rfl rfl sy_refl) ?_
  refine sy_Fs (sx_iadd (z := 29) xc126_439 (by decide)) ?_
  refine sy_Fs (sx_bal (z := (mv_rd 32 Bi 29)) xc126_440 (wh_at hw 9 rfl) (by decide) (by decide) rfl) ?_
  refine sy_Fw (i := 8) (x := (1, 1, 4200, (hc Hd Bi 30))) hw (by decide) (sy_bas (i := 134) xc126_441 (wh_at hw 8 rfl) rfl (by decide) (by decide) rfl sy_refl) ?_
  intro w hw
  simp only [List.set_cons_zero, List.set_cons_succ] at hw
  refine sy_Fs (sx_iinc (c := 1) (z := 30) (ls' := [(2, pl 0, 0), (0, 0, 0), (0, sec, 0), (2, pl 31, 0), (0, 0, 0), (0, 1, 0), (0, 0, 0), (0, 105, 0), (0, 30, 0)]) xc126_442 rfl (by decide) (by rw [xl126]; rfl) rfl (by decide) rfl) ?_
  refine sy_Fs (sy_goto (pc' := 405) xc126_445 (by decide) (by decide) sy_refl) ?_
  refine sy_Fs (sy_ild xc126_405 rfl rfl sy_refl) ?_
  refine sy_Fs (sy_bipush (v := 32) xc126_407 (by decide) (by decide) sy_refl) ?_
  refine sy_Fs (sy_ge_f xc126_409 (by decide) (by decide) (by decide) sy_refl) ?_
  refine sy_Fs (sy_aldn xc126_412 rfl rfl sy_refl) ?_
  refine sy_Fs (sy_gf xc126_413 xf126_382 rfl (wh_at hw 0 rfl) rfl (fh_at hX0 10 rfl rfl) sy_refl) ?_
  refine sy_Fs (sy_ild xc126_416 rfl rfl sy_refl) ?_
  refine sy_Fs (sy_ild xc126_418 rfl rfl sy_refl) ?_
  refine sy_Fs (sx_iadd (z := 135) xc126_420 (by decide)) ?_
  refine sy_Fs (sy_ildn xc126_421 rfl rfl sy_refl) ?_
  refine sy_Fs (sy_ifge_t (pc' := 429) xc126_422 (by decide) (by decide) (by decide) sy_refl) ?_
  refine sy_Fs (sy_aldn xc126_429 rfl rfl sy_refl) ?_
  refine sy_Fs (sy_gf xc126_430 xf126_385 rfl (wh_at hw 0 rfl) rfl (fh_at hX0 11 rfl rfl) sy_refl) ?_
  refine sy_Fs (sy_bipush (v := 32) xc126_433 (by decide) (by decide) sy_refl) ?_
  refine sy_Fs (sy_ildn xc126_435 rfl rfl sy_refl) ?_
  refine sy_Fs (sx_imul (z := 0) xc126_436 (by decide)) ?_
  refine sy_Fs (sy_ild xc126_437 rfl rfl sy_refl) ?_
  refine sy_Fs (sx_iadd (z := 30) xc126_439 (by decide)) ?_
  refine sy_Fs (sx_bal (z := (mv_rd 32 Bi 30)) xc126_440 (wh_at hw 9 rfl) (by decide) (by decide) rfl) ?_
  refine sy_Fw (i := 8) (x := (1, 1, 4200, (hc Hd Bi 31))) hw (by decide) (sy_bas (i := 135) xc126_441 (wh_at hw 8 rfl) rfl (by decide) (by decide) rfl sy_refl) ?_
  intro w hw
  simp only [List.set_cons_zero, List.set_cons_succ] at hw
  refine sy_Fs (sx_iinc (c := 1) (z := 31) (ls' := [(2, pl 0, 0), (0, 0, 0), (0, sec, 0), (2, pl 31, 0), (0, 0, 0), (0, 1, 0), (0, 0, 0), (0, 105, 0), (0, 31, 0)]) xc126_442 rfl (by decide) (by rw [xl126]; rfl) rfl (by decide) rfl) ?_
  refine sy_Fs (sy_goto (pc' := 405) xc126_445 (by decide) (by decide) sy_refl) ?_
  refine sy_Fs (sy_ild xc126_405 rfl rfl sy_refl) ?_
  refine sy_Fs (sy_bipush (v := 32) xc126_407 (by decide) (by decide) sy_refl) ?_
  refine sy_Fs (sy_ge_f xc126_409 (by decide) (by decide) (by decide) sy_refl) ?_
  refine sy_Fs (sy_aldn xc126_412 rfl rfl sy_refl) ?_
  refine sy_Fs (sy_gf xc126_413 xf126_382 rfl (wh_at hw 0 rfl) rfl (fh_at hX0 10 rfl rfl) sy_refl) ?_
  refine sy_Fs (sy_ild xc126_416 rfl rfl sy_refl) ?_
  refine sy_Fs (sy_ild xc126_418 rfl rfl sy_refl) ?_
  refine sy_Fs (sx_iadd (z := 136) xc126_420 (by decide)) ?_
  refine sy_Fs (sy_ildn xc126_421 rfl rfl sy_refl) ?_
  refine sy_Fs (sy_ifge_t (pc' := 429) xc126_422 (by decide) (by decide) (by decide) sy_refl) ?_
  refine sy_Fs (sy_aldn xc126_429 rfl rfl sy_refl) ?_
  refine sy_Fs (sy_gf xc126_430 xf126_385 rfl (wh_at hw 0 rfl) rfl (fh_at hX0 11 rfl rfl) sy_refl) ?_
  refine sy_Fs (sy_bipush (v := 32) xc126_433 (by decide) (by decide) sy_refl) ?_
  refine sy_Fs (sy_ildn xc126_435 rfl rfl sy_refl) ?_
  refine sy_Fs (sx_imul (z := 0) xc126_436 (by decide)) ?_
  refine sy_Fs (sy_ild xc126_437 rfl rfl sy_refl) ?_
  refine sy_Fs (sx_iadd (z := 31) xc126_439 (by decide)) ?_
  refine sy_Fs (sx_bal (z := (mv_rd 32 Bi 31)) xc126_440 (wh_at hw 9 rfl) (by decide) (by decide) rfl) ?_
  refine sy_Fw (i := 8) (x := (1, 1, 4200, (hc Hd Bi 32))) hw (by decide) (sy_bas (i := 136) xc126_441 (wh_at hw 8 rfl) rfl (by decide) (by decide) rfl sy_refl) ?_
  intro w hw
  simp only [List.set_cons_zero, List.set_cons_succ] at hw
  refine sy_Fs (sx_iinc (c := 1) (z := 32) (ls' := [(2, pl 0, 0), (0, 0, 0), (0, sec, 0), (2, pl 31, 0), (0, 0, 0), (0, 1, 0), (0, 0, 0), (0, 105, 0), (0, 32, 0)]) xc126_442 rfl (by decide) (by rw [xl126]; rfl) rfl (by decide) rfl) ?_
  refine sy_Fs (sy_goto (pc' := 405) xc126_445 (by decide) (by decide) sy_refl) ?_
  refine sy_Fs (sy_ild xc126_405 rfl rfl sy_refl) ?_
  refine sy_Fs (sy_bipush (v := 32) xc126_407 (by decide) (by decide) sy_refl) ?_
  refine sy_Fs (sy_ge_t (pc' := 448) xc126_409 (by decide) (by decide) (by decide) (by decide) sy_refl) ?_
  refine sy_Fs (sy_aldn xc126_448 rfl rfl sy_refl) ?_
  refine sy_Fs (sy_ild xc126_449 rfl rfl sy_refl) ?_
  obtain ⟨ret, w, ⟨rfl, X0, P2, W2, V2, S2, M2, T2, u2, l2, hw1, hX1x⟩, hC⟩ := wq_mf (n := n) hw hX0 hA (fk := fun j => mv_rd 32 z_H1 j) (fm := fun _ => 4294967295) (hc_rd hId) (bb_rd hBu) zh_V ((mv_rd_self _ _ _ _).trans (by decide)) ((mv_rd_self _ _ _ _).trans (by decide)) (bb_0 hBu) (bb_3 hBu)
  refine sy_Fs (sy_callG (kd := 3) (as := [(2, pl 0, 0), (0, 1, 0)]) (S0 := []) (ret := []) xc126_451 (sy_calV (as := [(2, pl 0, 0), (0, 1, 0)]) (S0 := []) xm126_652 rfl rfl) rfl rfl (sy_rcvm xi128 (wh_at hw 0 rfl)) rfl (sy_oka (sy_oks_cons (sy_ok2 (wh_lt hw 0 (by first | decide | assumption))) (sy_oks_cons (sy_ok0 (by first | decide | assumption | omega | exact mo_rd_lt _ _ | exact mo_add_lt _ _ | exact mo_sub_lt _ _ | exact mo_mul_lt _ _ | exact mo_shl_lt _ _ | exact mo_ushr_lt _ _ | exact mo_or_lt (by decide) (mo_and_lt (mo_rd_lt _ _)) | exact mo_or_lt (mo_shl_lt _ _) (mo_and_lt (mo_rd_lt _ _)))) sy_oks_nil)) rfl xl128) hC (by decide) (by rw [xl128]; decide) sy_refl) ?_
  replace hw := hw1
  replace hX0 := hX1x
  refine sy_Fs (sy_aldn xc126_454 rfl rfl sy_refl) ?_
  refine sy_Fs (sy_ild xc126_455 rfl rfl sy_refl) ?_
  refine sy_Fs (sy_aldn xc126_457 rfl rfl sy_refl) ?_
  refine sy_Fs (sy_gf xc126_458 xf126_382 rfl (wh_at hw 0 rfl) rfl (fh_at hX0 10 rfl rfl) sy_refl) ?_
  refine sy_Fs (sy_ild xc126_461 rfl rfl sy_refl) ?_
  refine sy_Fs (sy_bipush (v := 32) xc126_463 (by decide) (by decide) sy_refl) ?_
  refine sy_Fs (sx_iadd (z := 137) xc126_465 (by decide)) ?_
  obtain ⟨ret, w, ⟨rfl, hw1⟩, hC⟩ := wq_root (n := n) hw hX0 ((mv_rd_self _ _ _ _).trans (by decide))
  refine sy_Fs (sy_callG (kd := 3) (as := [(2, pl 0, 0), (0, 1, 0), (2, pl 8, 0), (0, 137, 0)]) (S0 := []) (ret := []) xc126_466 (sy_calV (as := [(2, pl 0, 0), (0, 1, 0), (2, pl 8, 0), (0, 137, 0)]) (S0 := []) xm126_655 rfl rfl) rfl rfl (sy_rcvm xi131 (wh_at hw 0 rfl)) rfl (sy_oka (sy_oks_cons (sy_ok2 (wh_lt hw 0 (by first | decide | assumption))) (sy_oks_cons (sy_ok0 (by first | decide | assumption | omega | exact mo_rd_lt _ _ | exact mo_add_lt _ _ | exact mo_sub_lt _ _ | exact mo_mul_lt _ _ | exact mo_shl_lt _ _ | exact mo_ushr_lt _ _ | exact mo_or_lt (by decide) (mo_and_lt (mo_rd_lt _ _)) | exact mo_or_lt (mo_shl_lt _ _) (mo_and_lt (mo_rd_lt _ _)))) (sy_oks_cons (sy_ok2 (wh_lt hw 8 (by first | decide | assumption))) (sy_oks_cons (sy_ok0 (by first | decide | assumption | omega | exact mo_rd_lt _ _ | exact mo_add_lt _ _ | exact mo_sub_lt _ _ | exact mo_mul_lt _ _ | exact mo_shl_lt _ _ | exact mo_ushr_lt _ _ | exact mo_or_lt (by decide) (mo_and_lt (mo_rd_lt _ _)) | exact mo_or_lt (mo_shl_lt _ _) (mo_and_lt (mo_rd_lt _ _)))) sy_oks_nil)))) rfl xl131) hC (by decide) (by rw [xl131]; decide) sy_refl) ?_
  replace hw := hw1
  refine sy_Fs (sy_aldn xc126_469 rfl rfl sy_refl) ?_
  refine sy_Fs (sy_aldn xc126_470 rfl rfl sy_refl) ?_
  refine sy_Fs (sy_gf xc126_471 xf126_406 rfl (wh_at hw 0 rfl) rfl (fh_at hX0 28 rfl rfl) sy_refl) ?_
  refine sy_Fs (sy_bipush (v := 80) xc126_474 (by decide) (by decide) sy_refl) ?_
  refine sy_Fs (sy_ild xc126_476 rfl rfl sy_refl) ?_
  refine sy_Fs (sx_imul (z := 80) xc126_478 (by decide)) ?_
  refine sy_Fs (sy_aldn xc126_479 rfl rfl sy_refl) ?_
  refine sy_Fs (sy_gf xc126_480 xf126_409 rfl (wh_at hw 0 rfl) rfl (fh_at hX0 29 rfl rfl) sy_refl) ?_
  refine sy_Fs (sy_ild xc126_483 rfl rfl sy_refl) ?_
  refine sy_Fs (sx_ial (z := 2) xc126_485 (wh_at hw 27 rfl) (by decide) (by decide) ((mv_rd_self 32 Fs 1 2).trans (by decide))) ?_
  refine sy_Fs (sy_aldn xc126_486 rfl rfl sy_refl) ?_
  refine sy_Fs (sy_gf xc126_487 xf126_382 rfl (wh_at hw 0 rfl) rfl (fh_at hX0 10 rfl rfl) sy_refl) ?_
  refine sy_Fs (sy_ild xc126_490 rfl rfl sy_refl) ?_
  refine sy_Fs (sy_bipush (v := 64) xc126_492 (by decide) (by decide) sy_refl) ?_
  refine sy_Fs (sx_iadd (z := 169) xc126_494 (by decide)) ?_
  obtain ⟨w, X0, P3, W3, V3, S3, M3, T3, u3, l3, hC, hw3, hX3x, ⟨hu3, hl3⟩, hT3⟩ := wq_hash (n := n) (fa := 80) (at_ := 169) (nn := 2) (it := 8) (jf := 26) (f := f2) hw rfl rfl rfl rfl rfl rfl rfl rfl rfl (by decide) (by decide) rfl (by decide) (by decide) hX0 rfl rfl rfl rfl rfl rfl rfl rfl rfl (by first | decide | assumption | omega) (by first | decide | assumption | omega) (by first | decide | assumption | omega) (by first | decide | assumption | omega) hA (f2_ok) (by first | decide | assumption | omega)
  refine sy_Fs (sy_callG (kd := 3) (as := [(2, pl 0, 0), (2, pl 26, 0), (0, 80, 0), (0, 2, 0), (2, pl 8, 0), (0, 169, 0)]) (S0 := []) (ret := []) xc126_495 (sy_calV (as := [(2, pl 0, 0), (2, pl 26, 0), (0, 80, 0), (0, 2, 0), (2, pl 8, 0), (0, 169, 0)]) (S0 := []) xm126_156 rfl rfl) rfl rfl (sy_rcvm xi100 (wh_at hw 0 rfl)) rfl (sy_oka (sy_oks_cons (sy_ok2 (wh_lt hw 0 (by first | decide | assumption))) (sy_oks_cons (sy_ok2 (wh_lt hw 26 (by first | decide | assumption))) (sy_oks_cons (sy_ok0 (by first | decide | assumption | omega | exact mo_rd_lt _ _ | exact mo_add_lt _ _ | exact mo_sub_lt _ _ | exact mo_mul_lt _ _ | exact mo_shl_lt _ _ | exact mo_ushr_lt _ _ | exact mo_or_lt (by decide) (mo_and_lt (mo_rd_lt _ _)) | exact mo_or_lt (mo_shl_lt _ _) (mo_and_lt (mo_rd_lt _ _)))) (sy_oks_cons (sy_ok0 (by first | decide | assumption | omega | exact mo_rd_lt _ _ | exact mo_add_lt _ _ | exact mo_sub_lt _ _ | exact mo_mul_lt _ _ | exact mo_shl_lt _ _ | exact mo_ushr_lt _ _ | exact mo_or_lt (by decide) (mo_and_lt (mo_rd_lt _ _)) | exact mo_or_lt (mo_shl_lt _ _) (mo_and_lt (mo_rd_lt _ _)))) (sy_oks_cons (sy_ok2 (wh_lt hw 8 (by first | decide | assumption))) (sy_oks_cons (sy_ok0 (by first | decide | assumption | omega | exact mo_rd_lt _ _ | exact mo_add_lt _ _ | exact mo_sub_lt _ _ | exact mo_mul_lt _ _ | exact mo_shl_lt _ _ | exact mo_ushr_lt _ _ | exact mo_or_lt (by decide) (mo_and_lt (mo_rd_lt _ _)) | exact mo_or_lt (mo_shl_lt _ _) (mo_and_lt (mo_rd_lt _ _)))) sy_oks_nil)))))) rfl xl100) hC (by decide) (by rw [xl100]; decide) sy_refl) ?_
  replace hw := hw3
  replace hX0 := hX3x
  simp only [List.set_cons_zero, List.set_cons_succ] at hw hX0
  refine sy_Fs (sy_aldn xc126_498 rfl rfl sy_refl) ?_
  refine sy_Fs (sy_gf xc126_499 xf126_382 rfl (wh_at hw 0 rfl) rfl (fh_at hX0 10 rfl rfl) sy_refl) ?_
  refine sy_Fs (sy_ild xc126_502 rfl rfl sy_refl) ?_
  refine sy_Fs (sy_bipush (v := 96) xc126_504 (by decide) (by decide) sy_refl) ?_
  refine sy_Fs (sx_iadd (z := 201) xc126_506 (by decide)) ?_
  refine sy_Fs (sy_aldn xc126_507 rfl rfl sy_refl) ?_
  refine sy_Fs (sy_gf xc126_508 xf126_394 rfl (wh_at hw 0 rfl) rfl (fh_at hX0 14 rfl rfl) sy_refl) ?_
  refine sy_Fs (sy_ild xc126_511 rfl rfl sy_refl) ?_
  refine sy_Fs (sx_ial (z := sec) xc126_513 (wh_at hw 12 rfl) (by decide) (by decide) ((mv_rd_self 32 Tm 1 sec).trans (Nat.mod_eq_of_lt (by omega)))) ?_
  refine sy_Fw (i := 8) (x := (1, 1, 4200, (pw_4 T3 201 sec))) hw (by decide) (sy_callG (kd := 1) (as := [(2, pl 8, 0), (0, 201, 0), (0, sec, 0)]) (S0 := []) (ret := []) xc126_514 (sy_calS (as := [(2, pl 8, 0), (0, 201, 0), (0, sec, 0)]) (S0 := []) xm126_144 rfl rfl) rfl rfl rfl rfl (sy_oka (sy_oks_cons (sy_ok2 (wh_lt hw 8 (by first | decide | assumption))) (sy_oks_cons (sy_ok0 (by first | decide | assumption | omega | exact mo_rd_lt _ _ | exact mo_add_lt _ _ | exact mo_sub_lt _ _ | exact mo_mul_lt _ _ | exact mo_shl_lt _ _ | exact mo_ushr_lt _ _ | exact mo_or_lt (by decide) (mo_and_lt (mo_rd_lt _ _)) | exact mo_or_lt (mo_shl_lt _ _) (mo_and_lt (mo_rd_lt _ _)))) (sy_oks_cons (sy_ok0 (by first | decide | assumption | omega | exact mo_rd_lt _ _ | exact mo_add_lt _ _ | exact mo_sub_lt _ _ | exact mo_mul_lt _ _ | exact mo_shl_lt _ _ | exact mo_ushr_lt _ _ | exact mo_or_lt (by decide) (mo_and_lt (mo_rd_lt _ _)) | exact mo_or_lt (mo_shl_lt _ _) (mo_and_lt (mo_rd_lt _ _)))) sy_oks_nil))) rfl xl96) (pw_run (wh_lt hw 8 (by first | decide | assumption)) (wh_at hw 8 rfl) (by first | decide | assumption | omega) (by first | decide | assumption | omega) (by first | decide | assumption | omega | exact mo_rd_lt _ _ | exact mo_add_lt _ _ | exact mo_sub_lt _ _ | exact mo_mul_lt _ _ | exact mo_shl_lt _ _ | exact mo_ushr_lt _ _ | exact mo_or_lt (by decide) (mo_and_lt (mo_rd_lt _ _)) | exact mo_or_lt (mo_shl_lt _ _) (mo_and_lt (mo_rd_lt _ _)))) (by decide) (by rw [xl96]; decide) sy_refl) ?_
  intro w hw
  simp only [List.set_cons_zero, List.set_cons_succ] at hw
  refine sy_Fs (sy_aldn xc126_517 rfl rfl sy_refl) ?_
  refine sy_Fs (sy_gf xc126_518 xf126_382 rfl (wh_at hw 0 rfl) rfl (fh_at hX0 10 rfl rfl) sy_refl) ?_
  refine sy_Fs (sy_ild xc126_521 rfl rfl sy_refl) ?_
  refine sy_Fs (sy_bipush (v := 100) xc126_523 (by decide) (by decide) sy_refl) ?_
  refine sy_Fs (sx_iadd (z := 205) xc126_525 (by decide)) ?_
  refine sy_Fs (sy_aldn xc126_526 rfl rfl sy_refl) ?_
  refine sy_Fs (sy_gf xc126_527 xf126_397 rfl (wh_at hw 0 rfl) rfl (fh_at hX0 15 rfl rfl) sy_refl) ?_
  refine sy_Fs (sy_ild xc126_530 rfl rfl sy_refl) ?_
  refine sy_Fs (sx_ial (z := 2) xc126_532 (wh_at hw 13 rfl) (by decide) (by decide) ((mv_rd_self 32 Bo 1 2).trans (by decide))) ?_
  refine sy_Fs (sx_i2b (z := 4294967298) xc126_533 (by decide)) ?_
  refine sy_Fw (i := 8) (x := (1, 1, 4200, (mv_wr 32 (pw_4 T3 201 sec) 205 (mn_b 4294967298)))) hw (by decide) (sy_bas (i := 205) xc126_534 (wh_at hw 8 rfl) rfl (by decide) (by decide) rfl sy_refl) ?_
  intro w hw
  simp only [List.set_cons_zero, List.set_cons_succ] at hw
  refine sy_Fs (sy_aldn xc126_535 rfl rfl sy_refl) ?_
  refine sy_Fs (sy_gf xc126_536 xf126_400 rfl (wh_at hw 0 rfl) rfl (fh_at hX0 32 rfl rfl) sy_refl) ?_
  refine sy_Fs (sy_ild xc126_539 rfl rfl sy_refl) ?_
  refine sy_Fs (sy_iconst (v := 4294967295) xc126_541 (by decide) sy_refl) ?_
  refine sy_Fw (i := 30) (x := (1, 0, 40, (mv_wr 32 No 1 4294967295))) hw (by decide) (sy_ias (i := 1) xc126_542 (wh_at hw 30 rfl) rfl (by decide) (by decide) rfl sy_refl) ?_
  intro w hw
  simp only [List.set_cons_zero, List.set_cons_succ] at hw
  refine sy_Fs (sy_iconst (v := 0) xc126_543 (by decide) sy_refl) ?_
  refine sy_Fs (sx_ist (j := 8) (ls' := [(2, pl 0, 0), (0, 0, 0), (0, sec, 0), (2, pl 31, 0), (0, 0, 0), (0, 1, 0), (0, 0, 0), (0, 105, 0), (0, 0, 0)]) xc126_544 rfl (sy_ok0 (by first | decide | assumption | omega | exact mo_rd_lt _ _ | exact mo_add_lt _ _ | exact mo_sub_lt _ _ | exact mo_mul_lt _ _ | exact mo_shl_lt _ _ | exact mo_ushr_lt _ _ | exact mo_or_lt (by decide) (mo_and_lt (mo_rd_lt _ _)) | exact mo_or_lt (mo_shl_lt _ _) (mo_and_lt (mo_rd_lt _ _)))) (by rw [xl126]; rfl) rfl rfl) ?_
  have hpr := Nat.eq_of_beq_eq_true (z_pr_all hsec)
  have hN5 : mv_rd 5 z_NN sec < 2147483648 := Nat.lt_trans (mv_rd_lt 5 _ _) (by decide)
  exact bl_n (g := hx sec) (N := mv_rd 5 z_NN sec) (by decide) (by decide) hsec hN5 hpr (mv_rd 5 z_NN sec) 0 4294967295 w X0 P3 W3 V3 S3 Af M3 (mv_wr 32 (pw_4 T3 201 sec) 205 (mn_b 4294967298)) Bi (mv_wr 32 Bf 1 0) (mv_wr 32 Hg 1 1) (mv_wr 32 Tm 1 sec) (mv_wr 32 Bo 1 2) (mv_wr 32 Wk 1 8) (mv_wr 32 (mv_wr 32 (mv_wr 32 (mv_wr 32 Pn 1 0) 1 1) 1 0) 1 1) (mv_wr 32 (mv_wr 32 Bs 1 0) 1 28) (mtT Mt Bu) (mv_wr 32 Pst 4 0) (mv_wr 32 Ppl 4 28) (mv_wr 32 Psz 4 28) (mo_T Bb 1900 (mtT Mt Bu) 0 28) Tp (mo_T So 0 (mo_T Bb 1900 (mtT Mt Bu) 0 28) 1908 20) (mv_wr 32 Fn 24 24) (mv_wr 32 Fc 1 1) (ff Fl) (mv_wr 32 Fs 1 2) T2 (mo_T Ly 0 Tp 128 32) (mv_wr 32 No 1 4294967295) Bu th u3 l3 1 15 (Nat.zero_add _) hw hX0 hA ((mv_rd_self 32 No 1 4294967295).trans (by decide)) (by decide) ((mv_rd_self 32 Bo 1 2).trans (by decide)) (hh_g hsec hId hTp hT3)
theorem wq_nb (hw : wh 32 pl w0 w [(0, 0, 107, X0), (1, 1, 64, Pc), (1, 0, 64, mc_K), (1, 0, 64, Wd), (1, 0, 8, Vv), (1, 0, 8, St), (1, 0, 8, Af), (1, 1, 32, Mi), (1, 1, 4200, Hd), (1, 1, 1280, Bi), (1, 0, 40, Bf), (1, 0, 40, Hg), (1, 0, 40, Tm), (1, 0, 40, Bo), (1, 0, 40, Wk), (1, 0, 40, Pn), (1, 0, 40, Bs), (1, 1, 28, Mt), (1, 0, 160, Pst), (1, 0, 160, Ppl), (1, 0, 160, Psz), (1, 1, 76000, Bb), (1, 1, 5120, Pid), (1, 1, 600, So), (1, 0, 960, Fn), (1, 0, 40, Fc), (1, 1, 3200, Fl), (1, 0, 40, Fs), (1, 1, 32, Ou), (1, 1, 2400, Ly), (1, 0, 40, No), (1, 1, 20, Bu)]) (hX0 : fh X0 jQ [(0, th, 0), (2, pl 1, 0), (2, pl 2, 0), (2, pl 3, 0), (2, pl 4, 0), (2, pl 5, 0), (2, pl 6, 0), (2, pl 7, 0), (0, up, 0), (1, lp, 0), (2, pl 8, 0), (2, pl 9, 0), (2, pl 10, 0), (2, pl 11, 0), (2, pl 12, 0), (2, pl 13, 0), (2, pl 14, 0), (2, pl 15, 0), (2, pl 16, 0), (2, pl 17, 0), (2, pl 18, 0), (2, pl 19, 0), (2, pl 20, 0), (2, pl 21, 0), (2, pl 22, 0), (2, pl 23, 0), (2, pl 24, 0), (2, pl 25, 0), (2, pl 26, 0), (2, pl 27, 0), (2, pl 28, 0), (2, pl 29, 0), (2, pl 30, 0), (2, pl 31, 0), (0, 1, 0), (0, 0, 0), (0, sc, 0), (0, ba, 0), (0, 0, 0)])  : sy_D 136 n 1 25 [(2, pl 0, 0), (0, 0, 0)] w (fun ret w' => ret = [(0, 0, 0)] ∧ w' = w) := by
  refine sy_Dof (us := []) (sy_oks_cons (sy_ok2 (wh_lt hw 0 (by first | decide | assumption))) (sy_oks_cons (sy_ok0 (by first | decide | assumption | omega | exact mo_rd_lt _ _ | exact mo_add_lt _ _ | exact mo_sub_lt _ _ | exact mo_mul_lt _ _ | exact mo_shl_lt _ _ | exact mo_ushr_lt _ _ | exact mo_or_lt (by decide) (mo_and_lt (mo_rd_lt _ _)) | exact mo_or_lt (mo_shl_lt _ _) (mo_and_lt (mo_rd_lt _ _)))) sy_oks_nil)) rfl rfl ?_
  show sy_F 136 n 1 25 0 [(2, pl 0, 0), (0, 0, 0)] [] w _
  refine sy_Fs (sy_ildn xc136_0 rfl rfl sy_refl) ?_
  refine sy_Fs (sx_i2l xc136_1 (by first | decide | assumption | omega | exact mo_rd_lt _ _ | exact mo_add_lt _ _ | exact mo_sub_lt _ _ | exact mo_mul_lt _ _ | exact mo_shl_lt _ _ | exact mo_ushr_lt _ _ | exact mo_or_lt (by decide) (mo_and_lt (mo_rd_lt _ _)) | exact mo_or_lt (mo_shl_lt _ _) (mo_and_lt (mo_rd_lt _ _)))) ?_
  refine sy_Fs (sy_lconst xc136_2 sy_refl) ?_
  refine sy_Fs (sy_aldn xc136_3 rfl rfl sy_refl) ?_
  refine sy_Fs (sy_gf xc136_4 xf136_632 rfl (wh_at hw 0 rfl) rfl (fh_at hX0 34 rfl rfl) sy_refl) ?_
  refine sy_Fs (sy_iconst (v := 1) xc136_7 (by decide) sy_refl) ?_
  refine sy_Fs (sx_isub (z := 0) xc136_8 (by decide)) ?_
  refine sy_Fs (sx_i2l xc136_9 (by first | decide | assumption | omega | exact mo_rd_lt _ _ | exact mo_add_lt _ _ | exact mo_sub_lt _ _ | exact mo_mul_lt _ _ | exact mo_shl_lt _ _ | exact mo_ushr_lt _ _ | exact mo_or_lt (by decide) (mo_and_lt (mo_rd_lt _ _)) | exact mo_or_lt (mo_shl_lt _ _) (mo_and_lt (mo_rd_lt _ _)))) ?_
  refine sy_Fs (sy_callG (kd := 1) (as := [(1, 0, 0), (1, 0, 0), (1, 0, 0)]) (S0 := []) (ret := [(0, 1, 0)]) xc136_10 (sy_calS (as := [(1, 0, 0), (1, 0, 0), (1, 0, 0)]) (S0 := []) xm136_147 rfl rfl) rfl rfl rfl rfl (sy_oka (sy_oks_cons (sy_ok1 (by first | decide | assumption | omega | exact mo_rd_lt _ _ | exact mo_add_lt _ _ | exact mo_sub_lt _ _ | exact mo_mul_lt _ _ | exact mo_shl_lt _ _ | exact mo_ushr_lt _ _ | exact mo_or_lt (by decide) (mo_and_lt (mo_rd_lt _ _)) | exact mo_or_lt (mo_shl_lt _ _) (mo_and_lt (mo_rd_lt _ _)))) (sy_oks_cons (sy_ok1 (by first | decide | assumption | omega | exact mo_rd_lt _ _ | exact mo_add_lt _ _ | exact mo_sub_lt _ _ | exact mo_mul_lt _ _ | exact mo_shl_lt _ _ | exact mo_ushr_lt _ _ | exact mo_or_lt (by decide) (mo_and_lt (mo_rd_lt _ _)) | exact mo_or_lt (mo_shl_lt _ _) (mo_and_lt (mo_rd_lt _ _)))) (sy_oks_cons (sy_ok1 (by first | decide | assumption | omega | exact mo_rd_lt _ _ | exact mo_add_lt _ _ | exact mo_sub_lt _ _ | exact mo_mul_lt _ _ | exact mo_shl_lt _ _ | exact mo_ushr_lt _ _ | exact mo_or_lt (by decide) (mo_and_lt (mo_rd_lt _ _)) | exact mo_or_lt (mo_shl_lt _ _) (mo_and_lt (mo_rd_lt _ _)))) sy_oks_nil))) rfl xl98) (wr_in (n := n) (by first | decide | assumption | omega) (by first | decide | assumption | omega) (by first | decide | assumption | omega)) (by decide) (by rw [xl98]; decide) sy_refl) ?_
  refine sy_Fs (sy_ifne_t (pc' := 20) xc136_13 (by decide) (by decide) (by decide) (by decide) sy_refl) ?_
  refine sy_Fs (sy_iconst (v := 0) xc136_20 (by decide) sy_refl) ?_
  exact sy_Fz xc136_21 xr136 (by first | decide | assumption | omega) ⟨rfl, rfl⟩
theorem wq_mine (hw : wh 32 pl w0 w [(0, 0, 107, X0), (1, 1, 64, Pc), (1, 0, 64, mc_K), (1, 0, 64, Wd), (1, 0, 8, Vv), (1, 0, 8, St), (1, 0, 8, Af), (1, 1, 32, Mi), (1, 1, 4200, Hd), (1, 1, 1280, Bi), (1, 0, 40, Bf), (1, 0, 40, Hg), (1, 0, 40, Tm), (1, 0, 40, Bo), (1, 0, 40, Wk), (1, 0, 40, Pn), (1, 0, 40, Bs), (1, 1, 28, Mt), (1, 0, 160, Pst), (1, 0, 160, Ppl), (1, 0, 160, Psz), (1, 1, 76000, Bb), (1, 1, 5120, Pid), (1, 1, 600, So), (1, 0, 960, Fn), (1, 0, 40, Fc), (1, 1, 3200, Fl), (1, 0, 40, Fs), (1, 1, 32, Ou), (1, 1, 2400, Ly), (1, 0, 40, No), (1, 1, 20, Bu)]) (hX0 : fh X0 jQ [(0, th, 0), (2, pl 1, 0), (2, pl 2, 0), (2, pl 3, 0), (2, pl 4, 0), (2, pl 5, 0), (2, pl 6, 0), (2, pl 7, 0), (0, up, 0), (1, lp, 0), (2, pl 8, 0), (2, pl 9, 0), (2, pl 10, 0), (2, pl 11, 0), (2, pl 12, 0), (2, pl 13, 0), (2, pl 14, 0), (2, pl 15, 0), (2, pl 16, 0), (2, pl 17, 0), (2, pl 18, 0), (2, pl 19, 0), (2, pl 20, 0), (2, pl 21, 0), (2, pl 22, 0), (2, pl 23, 0), (2, pl 24, 0), (2, pl 25, 0), (2, pl 26, 0), (2, pl 27, 0), (2, pl 28, 0), (2, pl 29, 0), (2, pl 30, 0), (2, pl 31, 0), (0, 1, 0), (0, 0, 0), (0, sc, 0), (0, ba, 0), (0, 0, 0)]) {sec : Nat} (hsec : sec ≤ 1000) (hA : ∀ i, i < 8 → mv_rd 32 Af i = mv_rd 32 hs_S0 i) (hh0 : mv_rd 32 Hg 0 = 0) (ht0 : mv_rd 32 Tm 0 = 0) (hb00 : mv_rd 32 Bo 0 = 2) (hw0 : mv_rd 32 Wk 0 = 4) (hBu : ∀ j, j < 20 → mv_rd 32 Bu j = 4294967295) (hId : ∀ j, j < 32 → mv_rd 32 Bi j = mv_rd 32 z_H1 j) : sy_D 135 n 9 328 [(2, pl 0, 0), (0, 0, 0), (0, sec, 0)] w (fun ret _ => ret = [(0, 1, 0)]) := by
  refine sy_Dof (us := [(255, 0, 0), (255, 0, 0)]) (sy_oks_cons (sy_ok2 (wh_lt hw 0 (by first | decide | assumption))) (sy_oks_cons (sy_ok0 (by first | decide | assumption | omega | exact mo_rd_lt _ _ | exact mo_add_lt _ _ | exact mo_sub_lt _ _ | exact mo_mul_lt _ _ | exact mo_shl_lt _ _ | exact mo_ushr_lt _ _ | exact mo_or_lt (by decide) (mo_and_lt (mo_rd_lt _ _)) | exact mo_or_lt (mo_shl_lt _ _) (mo_and_lt (mo_rd_lt _ _)))) (sy_oks_cons (sy_ok0 (by first | decide | assumption | omega | exact mo_rd_lt _ _ | exact mo_add_lt _ _ | exact mo_sub_lt _ _ | exact mo_mul_lt _ _ | exact mo_shl_lt _ _ | exact mo_ushr_lt _ _ | exact mo_or_lt (by decide) (mo_and_lt (mo_rd_lt _ _)) | exact mo_or_lt (mo_shl_lt _ _) (mo_and_lt (mo_rd_lt _ _)))) sy_oks_nil))) rfl rfl ?_
  show sy_F 135 n 9 328 0 [(2, pl 0, 0), (0, 0, 0), (0, sec, 0), (255, 0, 0), (255, 0, 0)] [] w _
  refine sy_Fs (sy_aldn xc135_0 rfl rfl sy_refl) ?_
  refine sy_Fs (sy_iconst (v := 0) xc135_1 (by decide) sy_refl) ?_
  refine sy_Ff (i := 0) (q := 0) (v := (0, 0, 0)) hw hX0 (by decide) (by decide) rfl (sy_ok0 (by first | decide | assumption | omega | exact mo_rd_lt _ _ | exact mo_add_lt _ _ | exact mo_sub_lt _ _ | exact mo_mul_lt _ _ | exact mo_shl_lt _ _ | exact mo_ushr_lt _ _ | exact mo_or_lt (by decide) (mo_and_lt (mo_rd_lt _ _)) | exact mo_or_lt (mo_shl_lt _ _) (mo_and_lt (mo_rd_lt _ _)))) (sy_pfi xc135_2 xf135_1 rfl xt0_0 xn0_0 (wh_at hw 0 rfl) rfl (by first | decide | assumption | omega | exact mo_rd_lt _ _ | exact mo_add_lt _ _ | exact mo_sub_lt _ _ | exact mo_mul_lt _ _ | exact mo_shl_lt _ _ | exact mo_ushr_lt _ _ | exact mo_or_lt (by decide) (mo_and_lt (mo_rd_lt _ _)) | exact mo_or_lt (mo_shl_lt _ _) (mo_and_lt (mo_rd_lt _ _))) rfl sy_refl) ?_
  intro w X0 hw hX0
  simp only [List.set_cons_zero, List.set_cons_succ] at hw hX0
  refine sy_Fs (sy_aldn xc135_5 rfl rfl sy_refl) ?_
  refine sy_Fs (sy_ildn xc135_6 rfl rfl sy_refl) ?_
  refine sy_Fs (sy_callG (kd := 3) (as := [(2, pl 0, 0), (0, 0, 0)]) (S0 := []) (ret := [(0, 0, 0)]) xc135_7 (sy_calV (as := [(2, pl 0, 0), (0, 0, 0)]) (S0 := []) xm135_662 rfl rfl) rfl rfl (sy_rcvm xi136 (wh_at hw 0 rfl)) rfl (sy_oka (sy_oks_cons (sy_ok2 (wh_lt hw 0 (by first | decide | assumption))) (sy_oks_cons (sy_ok0 (by first | decide | assumption | omega | exact mo_rd_lt _ _ | exact mo_add_lt _ _ | exact mo_sub_lt _ _ | exact mo_mul_lt _ _ | exact mo_shl_lt _ _ | exact mo_ushr_lt _ _ | exact mo_or_lt (by decide) (mo_and_lt (mo_rd_lt _ _)) | exact mo_or_lt (mo_shl_lt _ _) (mo_and_lt (mo_rd_lt _ _)))) sy_oks_nil)) rfl xl136) (sy_Cw (wq_nb (n := n) hw hX0)) (by decide) (by rw [xl136]; decide) sy_refl) ?_
  refine sy_Fs (sy_ifne_f xc135_10 (by decide) (by decide) sy_refl) ?_
  refine sy_Fs (sy_ildn xc135_13 rfl rfl sy_refl) ?_
  refine sy_Fs (sx_i2l xc135_14 (by first | decide | assumption | omega | exact mo_rd_lt _ _ | exact mo_add_lt _ _ | exact mo_sub_lt _ _ | exact mo_mul_lt _ _ | exact mo_shl_lt _ _ | exact mo_ushr_lt _ _ | exact mo_or_lt (by decide) (mo_and_lt (mo_rd_lt _ _)) | exact mo_or_lt (mo_shl_lt _ _) (mo_and_lt (mo_rd_lt _ _)))) ?_
  refine sy_Fs (sy_lconst xc135_15 sy_refl) ?_
  refine sy_Fs (sy_ldc2 (v := 1000) xc135_16 xk135_665 sy_refl) ?_
  refine sy_Fs (sy_callG (kd := 1) (as := [(1, sec, 0), (1, 0, 0), (1, 1000, 0)]) (S0 := []) (ret := [(0, 1, 0)]) xc135_19 (sy_calS (as := [(1, sec, 0), (1, 0, 0), (1, 1000, 0)]) (S0 := []) xm135_147 rfl rfl) rfl rfl rfl rfl (sy_oka (sy_oks_cons (sy_ok1 (by first | decide | assumption | omega | exact mo_rd_lt _ _ | exact mo_add_lt _ _ | exact mo_sub_lt _ _ | exact mo_mul_lt _ _ | exact mo_shl_lt _ _ | exact mo_ushr_lt _ _ | exact mo_or_lt (by decide) (mo_and_lt (mo_rd_lt _ _)) | exact mo_or_lt (mo_shl_lt _ _) (mo_and_lt (mo_rd_lt _ _)))) (sy_oks_cons (sy_ok1 (by first | decide | assumption | omega | exact mo_rd_lt _ _ | exact mo_add_lt _ _ | exact mo_sub_lt _ _ | exact mo_mul_lt _ _ | exact mo_shl_lt _ _ | exact mo_ushr_lt _ _ | exact mo_or_lt (by decide) (mo_and_lt (mo_rd_lt _ _)) | exact mo_or_lt (mo_shl_lt _ _) (mo_and_lt (mo_rd_lt _ _)))) (sy_oks_cons (sy_ok1 (by first | decide | assumption | omega | exact mo_rd_lt _ _ | exact mo_add_lt _ _ | exact mo_sub_lt _ _ | exact mo_mul_lt _ _ | exact mo_shl_lt _ _ | exact mo_ushr_lt _ _ | exact mo_or_lt (by decide) (mo_and_lt (mo_rd_lt _ _)) | exact mo_or_lt (mo_shl_lt _ _) (mo_and_lt (mo_rd_lt _ _)))) sy_oks_nil))) rfl xl98) (wr_in (n := n) (by first | decide | assumption | omega) (by first | decide | assumption | omega) (by first | decide | assumption | omega)) (by decide) (by rw [xl98]; decide) sy_refl) ?_
  refine sy_Fs (sy_ifne_t (pc' := 27) xc135_22 (by decide) (by decide) (by decide) (by decide) sy_refl) ?_
  refine sy_Fs (sy_aldn xc135_27 rfl rfl sy_refl) ?_
  refine sy_Fs (sy_gf xc135_28 xf135_632 rfl (wh_at hw 0 rfl) rfl (fh_at hX0 34 rfl rfl) sy_refl) ?_
  refine sy_Fs (sy_bipush (v := 40) xc135_31 (by decide) (by decide) sy_refl) ?_
  refine sy_Fs (sy_icmpne_t (pc' := 39) xc135_33 (by decide) (by decide) (by decide) (by decide) (by decide) sy_refl) ?_
  refine sy_Fs (sy_aldn xc135_39 rfl rfl sy_refl) ?_
  refine sy_Fs (sy_gf xc135_40 xf135_138 rfl (wh_at hw 0 rfl) rfl (fh_at hX0 38 rfl rfl) sy_refl) ?_
  refine sy_Fs (sy_bipush (v := 20) xc135_43 (by decide) (by decide) sy_refl) ?_
  refine sy_Fs (sy_icmplt_t (pc' := 52) xc135_45 (by decide) (by decide) (by decide) (by decide) sy_refl) ?_
  refine sy_Fs (sy_iconst (v := 0) xc135_52 (by decide) sy_refl) ?_
  refine sy_Fs (sx_istn (j := 3) (ls' := [(2, pl 0, 0), (0, 0, 0), (0, sec, 0), (0, 0, 0), (255, 0, 0)]) xc135_53 rfl rfl (sy_ok0 (by first | decide | assumption | omega | exact mo_rd_lt _ _ | exact mo_add_lt _ _ | exact mo_sub_lt _ _ | exact mo_mul_lt _ _ | exact mo_shl_lt _ _ | exact mo_ushr_lt _ _ | exact mo_or_lt (by decide) (mo_and_lt (mo_rd_lt _ _)) | exact mo_or_lt (mo_shl_lt _ _) (mo_and_lt (mo_rd_lt _ _)))) (by rw [xl135]; rfl) rfl rfl) ?_
  refine sy_Fs (sy_aldn xc135_54 rfl rfl sy_refl) ?_
  refine sy_Fs (sy_ildn xc135_55 rfl rfl sy_refl) ?_
  refine sy_Fs (sy_ildn xc135_56 rfl rfl sy_refl) ?_
  refine sy_Fs (sy_ildn xc135_57 rfl rfl sy_refl) ?_
  refine sy_Fs (sy_ifeq_t (pc' := 68) xc135_58 (by decide) (by decide) (by decide) sy_refl) ?_
  refine sy_Fs (sy_aldn xc135_68 rfl rfl sy_refl) ?_
  refine sy_Fs (sy_gf xc135_69 xf135_427 rfl (wh_at hw 0 rfl) rfl (fh_at hX0 33 rfl rfl) sy_refl) ?_
  refine sy_Fs (sy_iconst (v := 0) xc135_72 (by decide) sy_refl) ?_
  obtain ⟨ret, w, ⟨rfl, X0, Pc, Wd, Vv, St, Af, Mi, Hd, Bi, Bf, Hg, Tm, Bo, Wk, Pn, Bs, Mt, Pst, Ppl, Psz, Bb, Pid, So, Fn, Fc, Fl, Fs, Ou, Ly, No, Bu, th, up, lp, sc, ba, hw1, hX1x⟩, hC⟩ := wq_build (n := n) hw hX0 hsec hA hh0 ht0 hb00 hw0 hBu hId
  refine sy_Fs (sy_callG (kd := 3) (as := [(2, pl 0, 0), (0, 0, 0), (0, sec, 0), (2, pl 31, 0), (0, 0, 0)]) (S0 := []) (ret := [(0, 1, 0)]) xc135_73 (sy_calV (as := [(2, pl 0, 0), (0, 0, 0), (0, sec, 0), (2, pl 31, 0), (0, 0, 0)]) (S0 := []) xm135_578 rfl rfl) rfl rfl (sy_rcvm xi126 (wh_at hw 0 rfl)) rfl (sy_oka (sy_oks_cons (sy_ok2 (wh_lt hw 0 (by first | decide | assumption))) (sy_oks_cons (sy_ok0 (by first | decide | assumption | omega | exact mo_rd_lt _ _ | exact mo_add_lt _ _ | exact mo_sub_lt _ _ | exact mo_mul_lt _ _ | exact mo_shl_lt _ _ | exact mo_ushr_lt _ _ | exact mo_or_lt (by decide) (mo_and_lt (mo_rd_lt _ _)) | exact mo_or_lt (mo_shl_lt _ _) (mo_and_lt (mo_rd_lt _ _)))) (sy_oks_cons (sy_ok0 (by first | decide | assumption | omega | exact mo_rd_lt _ _ | exact mo_add_lt _ _ | exact mo_sub_lt _ _ | exact mo_mul_lt _ _ | exact mo_shl_lt _ _ | exact mo_ushr_lt _ _ | exact mo_or_lt (by decide) (mo_and_lt (mo_rd_lt _ _)) | exact mo_or_lt (mo_shl_lt _ _) (mo_and_lt (mo_rd_lt _ _)))) (sy_oks_cons (sy_ok2 (wh_lt hw 31 (by first | decide | assumption))) (sy_oks_cons (sy_ok0 (by first | decide | assumption | omega | exact mo_rd_lt _ _ | exact mo_add_lt _ _ | exact mo_sub_lt _ _ | exact mo_mul_lt _ _ | exact mo_shl_lt _ _ | exact mo_ushr_lt _ _ | exact mo_or_lt (by decide) (mo_and_lt (mo_rd_lt _ _)) | exact mo_or_lt (mo_shl_lt _ _) (mo_and_lt (mo_rd_lt _ _)))) sy_oks_nil))))) rfl xl126) hC (by decide) (by rw [xl126]; decide) sy_refl) ?_
  replace hw := hw1
  replace hX0 := hX1x
  refine sy_Fs (sx_ist (j := 4) (ls' := [(2, pl 0, 0), (0, 0, 0), (0, sec, 0), (0, 0, 0), (0, 1, 0)]) xc135_76 rfl (sy_ok0 (by first | decide | assumption | omega | exact mo_rd_lt _ _ | exact mo_add_lt _ _ | exact mo_sub_lt _ _ | exact mo_mul_lt _ _ | exact mo_shl_lt _ _ | exact mo_ushr_lt _ _ | exact mo_or_lt (by decide) (mo_and_lt (mo_rd_lt _ _)) | exact mo_or_lt (mo_shl_lt _ _) (mo_and_lt (mo_rd_lt _ _)))) (by rw [xl135]; rfl) rfl rfl) ?_
  refine sy_Fs (sy_aldn xc135_78 rfl rfl sy_refl) ?_
  refine sy_Fs (sy_ildn xc135_79 rfl rfl sy_refl) ?_
  refine sy_Fs (sy_ifeq_t (pc' := 87) xc135_80 (by decide) (by decide) (by decide) sy_refl) ?_
  refine sy_Fs (sy_aldn xc135_87 rfl rfl sy_refl) ?_
  refine sy_Fs (sy_gf xc135_88 xf135_138 rfl (wh_at hw 0 rfl) rfl (fh_at hX0 38 rfl rfl) sy_refl) ?_
  refine sy_Ff (i := 0) (q := 38) (v := (0, 0, 0)) hw hX0 (by decide) (by decide) rfl (sy_ok0 (by first | decide | assumption | omega | exact mo_rd_lt _ _ | exact mo_add_lt _ _ | exact mo_sub_lt _ _ | exact mo_mul_lt _ _ | exact mo_shl_lt _ _ | exact mo_ushr_lt _ _ | exact mo_or_lt (by decide) (mo_and_lt (mo_rd_lt _ _)) | exact mo_or_lt (mo_shl_lt _ _) (mo_and_lt (mo_rd_lt _ _)))) (sy_pfi xc135_91 xf135_138 rfl xt0_17 xn0_17 (wh_at hw 0 rfl) rfl (by first | decide | assumption | omega | exact mo_rd_lt _ _ | exact mo_add_lt _ _ | exact mo_sub_lt _ _ | exact mo_mul_lt _ _ | exact mo_shl_lt _ _ | exact mo_ushr_lt _ _ | exact mo_or_lt (by decide) (mo_and_lt (mo_rd_lt _ _)) | exact mo_or_lt (mo_shl_lt _ _) (mo_and_lt (mo_rd_lt _ _))) rfl sy_refl) ?_
  intro w X0 hw hX0
  simp only [List.set_cons_zero, List.set_cons_succ] at hw hX0
  refine sy_Fs (sy_ild xc135_94 rfl rfl sy_refl) ?_
  exact sy_Fi xc135_96 xr135 rfl rfl
end QB
