/-! THE LAW, from its switch on -/
theorem cd164_18 : tt_cd 164 18 = (1, .iload_n 3, 1) := by decide +kernel
theorem cd164_19 : tt_cd 164 19 = (1, .aload_n 0, 1) := by decide +kernel
theorem cd164_20 : tt_cd 164 20 = (3, .arraylength, 1) := by decide +kernel
theorem cd164_21 : tt_cd 164 21 = (4, .bipush 6, 2) := by decide +kernel
theorem cd164_23 : tt_cd 164 23 = (2, .isub, 1) := by decide +kernel
theorem cd164_24 : tt_cd 164 24 = (5, .if_icmp .gt 932, 3) := by decide +kernel
theorem cd164_152 : tt_cd 164 152 = (1, .aload_n 1, 1) := by decide +kernel
theorem cd164_153 : tt_cd 164 153 = (1, .aload_n 0, 1) := by decide +kernel
theorem cd164_154 : tt_cd 164 154 = (1, .iload_n 3, 1) := by decide +kernel
theorem cd164_155 : tt_cd 164 155 = (2, .iconst 1, 1) := by decide +kernel
theorem cd164_156 : tt_cd 164 156 = (2, .iadd, 1) := by decide +kernel
theorem cd164_157 : tt_cd 164 157 = (3, .iaload, 1) := by decide +kernel
theorem cd164_158 : tt_cd 164 158 = (1, .aload_n 0, 1) := by decide +kernel
theorem cd164_159 : tt_cd 164 159 = (1, .iload_n 3, 1) := by decide +kernel
theorem cd164_160 : tt_cd 164 160 = (2, .iconst 2, 1) := by decide +kernel
theorem cd164_161 : tt_cd 164 161 = (2, .iadd, 1) := by decide +kernel
theorem cd164_162 : tt_cd 164 162 = (3, .iaload, 1) := by decide +kernel
theorem cd164_163 : tt_cd 164 163 = (1, .aload_n 0, 1) := by decide +kernel
theorem cd164_164 : tt_cd 164 164 = (1, .iload_n 3, 1) := by decide +kernel
theorem cd164_165 : tt_cd 164 165 = (2, .iconst 3, 1) := by decide +kernel
theorem cd164_166 : tt_cd 164 166 = (2, .iadd, 1) := by decide +kernel
theorem cd164_167 : tt_cd 164 167 = (3, .iaload, 1) := by decide +kernel
theorem cd164_168 : tt_cd 164 168 = (1, .aload_n 0, 1) := by decide +kernel
theorem cd164_169 : tt_cd 164 169 = (1, .iload_n 3, 1) := by decide +kernel
theorem cd164_170 : tt_cd 164 170 = (2, .iconst 4, 1) := by decide +kernel
theorem cd164_171 : tt_cd 164 171 = (2, .iadd, 1) := by decide +kernel
theorem cd164_172 : tt_cd 164 172 = (3, .iaload, 1) := by decide +kernel
theorem cd164_173 : tt_cd 164 173 = (1, .aload_n 0, 1) := by decide +kernel
theorem cd164_174 : tt_cd 164 174 = (1, .iload_n 3, 1) := by decide +kernel
theorem cd164_175 : tt_cd 164 175 = (2, .iconst 5, 1) := by decide +kernel
theorem cd164_176 : tt_cd 164 176 = (2, .iadd, 1) := by decide +kernel
theorem cd164_177 : tt_cd 164 177 = (3, .iaload, 1) := by decide +kernel
theorem cd164_178 : tt_cd 164 178 = (10, .invokevirtual 13, 3) := by decide +kernel
theorem cd164_181 : tt_cd 164 181 = (1, .aload_n 2, 1) := by decide +kernel
theorem cd164_182 : tt_cd 164 182 = (1, .aload_n 0, 1) := by decide +kernel
theorem cd164_183 : tt_cd 164 183 = (1, .iload_n 3, 1) := by decide +kernel
theorem cd164_184 : tt_cd 164 184 = (2, .iconst 1, 1) := by decide +kernel
theorem cd164_185 : tt_cd 164 185 = (2, .iadd, 1) := by decide +kernel
theorem cd164_186 : tt_cd 164 186 = (3, .iaload, 1) := by decide +kernel
theorem cd164_187 : tt_cd 164 187 = (1, .aload_n 0, 1) := by decide +kernel
theorem cd164_188 : tt_cd 164 188 = (1, .iload_n 3, 1) := by decide +kernel
theorem cd164_189 : tt_cd 164 189 = (2, .iconst 2, 1) := by decide +kernel
theorem cd164_190 : tt_cd 164 190 = (2, .iadd, 1) := by decide +kernel
theorem cd164_191 : tt_cd 164 191 = (3, .iaload, 1) := by decide +kernel
theorem cd164_192 : tt_cd 164 192 = (1, .aload_n 0, 1) := by decide +kernel
theorem cd164_193 : tt_cd 164 193 = (1, .iload_n 3, 1) := by decide +kernel
theorem cd164_194 : tt_cd 164 194 = (2, .iconst 3, 1) := by decide +kernel
theorem cd164_195 : tt_cd 164 195 = (2, .iadd, 1) := by decide +kernel
theorem cd164_196 : tt_cd 164 196 = (3, .iaload, 1) := by decide +kernel
theorem cd164_197 : tt_cd 164 197 = (1, .aload_n 0, 1) := by decide +kernel
theorem cd164_198 : tt_cd 164 198 = (1, .iload_n 3, 1) := by decide +kernel
theorem cd164_199 : tt_cd 164 199 = (2, .iconst 4, 1) := by decide +kernel
theorem cd164_200 : tt_cd 164 200 = (2, .iadd, 1) := by decide +kernel
theorem cd164_201 : tt_cd 164 201 = (3, .iaload, 1) := by decide +kernel
theorem cd164_202 : tt_cd 164 202 = (1, .aload_n 0, 1) := by decide +kernel
theorem cd164_203 : tt_cd 164 203 = (1, .iload_n 3, 1) := by decide +kernel
theorem cd164_204 : tt_cd 164 204 = (2, .iconst 5, 1) := by decide +kernel
theorem cd164_205 : tt_cd 164 205 = (2, .iadd, 1) := by decide +kernel
theorem cd164_206 : tt_cd 164 206 = (3, .iaload, 1) := by decide +kernel
theorem cd164_207 : tt_cd 164 207 = (10, .invokevirtual 17, 3) := by decide +kernel
theorem cd164_210 : tt_cd 164 210 = (5, .if_icmp .eq 740, 3) := by decide +kernel
theorem cd164_215 : tt_cd 164 215 = (1, .aload_n 1, 1) := by decide +kernel
theorem cd164_216 : tt_cd 164 216 = (1, .aload_n 0, 1) := by decide +kernel
theorem cd164_217 : tt_cd 164 217 = (1, .iload_n 3, 1) := by decide +kernel
theorem cd164_218 : tt_cd 164 218 = (2, .iconst 1, 1) := by decide +kernel
theorem cd164_219 : tt_cd 164 219 = (2, .iadd, 1) := by decide +kernel
theorem cd164_220 : tt_cd 164 220 = (3, .iaload, 1) := by decide +kernel
theorem cd164_221 : tt_cd 164 221 = (10, .invokevirtual 18, 3) := by decide +kernel
theorem cd164_224 : tt_cd 164 224 = (1, .aload_n 2, 1) := by decide +kernel
theorem cd164_225 : tt_cd 164 225 = (1, .aload_n 0, 1) := by decide +kernel
theorem cd164_226 : tt_cd 164 226 = (1, .iload_n 3, 1) := by decide +kernel
theorem cd164_227 : tt_cd 164 227 = (2, .iconst 1, 1) := by decide +kernel
theorem cd164_228 : tt_cd 164 228 = (2, .iadd, 1) := by decide +kernel
theorem cd164_229 : tt_cd 164 229 = (3, .iaload, 1) := by decide +kernel
theorem cd164_230 : tt_cd 164 230 = (10, .invokevirtual 22, 3) := by decide +kernel
theorem cd164_233 : tt_cd 164 233 = (5, .if_icmp .eq 717, 3) := by decide +kernel
theorem cd164_238 : tt_cd 164 238 = (1, .aload_n 1, 1) := by decide +kernel
theorem cd164_239 : tt_cd 164 239 = (1, .aload_n 0, 1) := by decide +kernel
theorem cd164_240 : tt_cd 164 240 = (1, .iload_n 3, 1) := by decide +kernel
theorem cd164_241 : tt_cd 164 241 = (2, .iconst 1, 1) := by decide +kernel
theorem cd164_242 : tt_cd 164 242 = (2, .iadd, 1) := by decide +kernel
theorem cd164_243 : tt_cd 164 243 = (3, .iaload, 1) := by decide +kernel
theorem cd164_244 : tt_cd 164 244 = (1, .aload_n 0, 1) := by decide +kernel
theorem cd164_245 : tt_cd 164 245 = (1, .iload_n 3, 1) := by decide +kernel
theorem cd164_246 : tt_cd 164 246 = (2, .iconst 2, 1) := by decide +kernel
theorem cd164_247 : tt_cd 164 247 = (2, .iadd, 1) := by decide +kernel
theorem cd164_248 : tt_cd 164 248 = (3, .iaload, 1) := by decide +kernel
theorem cd164_249 : tt_cd 164 249 = (10, .invokevirtual 23, 3) := by decide +kernel
theorem cd164_252 : tt_cd 164 252 = (1, .aload_n 2, 1) := by decide +kernel
theorem cd164_253 : tt_cd 164 253 = (1, .aload_n 0, 1) := by decide +kernel
theorem cd164_254 : tt_cd 164 254 = (1, .iload_n 3, 1) := by decide +kernel
theorem cd164_255 : tt_cd 164 255 = (2, .iconst 1, 1) := by decide +kernel
theorem cd164_256 : tt_cd 164 256 = (2, .iadd, 1) := by decide +kernel
theorem cd164_257 : tt_cd 164 257 = (3, .iaload, 1) := by decide +kernel
theorem cd164_258 : tt_cd 164 258 = (1, .aload_n 0, 1) := by decide +kernel
theorem cd164_259 : tt_cd 164 259 = (1, .iload_n 3, 1) := by decide +kernel
theorem cd164_260 : tt_cd 164 260 = (2, .iconst 2, 1) := by decide +kernel
theorem cd164_261 : tt_cd 164 261 = (2, .iadd, 1) := by decide +kernel
theorem cd164_262 : tt_cd 164 262 = (3, .iaload, 1) := by decide +kernel
theorem cd164_263 : tt_cd 164 263 = (10, .invokevirtual 27, 3) := by decide +kernel
theorem cd164_266 : tt_cd 164 266 = (5, .if_icmp .eq 684, 3) := by decide +kernel
theorem cd164_271 : tt_cd 164 271 = (1, .aload_n 1, 1) := by decide +kernel
theorem cd164_272 : tt_cd 164 272 = (10, .invokevirtual 28, 3) := by decide +kernel
theorem cd164_275 : tt_cd 164 275 = (1, .aload_n 2, 1) := by decide +kernel
theorem cd164_276 : tt_cd 164 276 = (10, .invokevirtual 32, 3) := by decide +kernel
theorem cd164_279 : tt_cd 164 279 = (5, .if_icmp .eq 671, 3) := by decide +kernel
theorem cd164_284 : tt_cd 164 284 = (1, .aload_n 1, 1) := by decide +kernel
theorem cd164_285 : tt_cd 164 285 = (1, .aload_n 0, 1) := by decide +kernel
theorem cd164_286 : tt_cd 164 286 = (1, .iload_n 3, 1) := by decide +kernel
theorem cd164_287 : tt_cd 164 287 = (2, .iconst 1, 1) := by decide +kernel
theorem cd164_288 : tt_cd 164 288 = (2, .iadd, 1) := by decide +kernel
theorem cd164_289 : tt_cd 164 289 = (3, .iaload, 1) := by decide +kernel
theorem cd164_290 : tt_cd 164 290 = (10, .invokevirtual 33, 3) := by decide +kernel
theorem cd164_293 : tt_cd 164 293 = (1, .aload_n 2, 1) := by decide +kernel
theorem cd164_294 : tt_cd 164 294 = (1, .aload_n 0, 1) := by decide +kernel
theorem cd164_295 : tt_cd 164 295 = (1, .iload_n 3, 1) := by decide +kernel
theorem cd164_296 : tt_cd 164 296 = (2, .iconst 1, 1) := by decide +kernel
theorem cd164_297 : tt_cd 164 297 = (2, .iadd, 1) := by decide +kernel
theorem cd164_298 : tt_cd 164 298 = (3, .iaload, 1) := by decide +kernel
theorem cd164_299 : tt_cd 164 299 = (10, .invokevirtual 36, 3) := by decide +kernel
theorem cd164_302 : tt_cd 164 302 = (5, .if_icmp .eq 648, 3) := by decide +kernel
theorem cd164_307 : tt_cd 164 307 = (1, .aload_n 1, 1) := by decide +kernel
theorem cd164_308 : tt_cd 164 308 = (1, .aload_n 0, 1) := by decide +kernel
theorem cd164_309 : tt_cd 164 309 = (1, .iload_n 3, 1) := by decide +kernel
theorem cd164_310 : tt_cd 164 310 = (2, .iconst 1, 1) := by decide +kernel
theorem cd164_311 : tt_cd 164 311 = (2, .iadd, 1) := by decide +kernel
theorem cd164_312 : tt_cd 164 312 = (3, .iaload, 1) := by decide +kernel
theorem cd164_313 : tt_cd 164 313 = (1, .aload_n 0, 1) := by decide +kernel
theorem cd164_314 : tt_cd 164 314 = (1, .iload_n 3, 1) := by decide +kernel
theorem cd164_315 : tt_cd 164 315 = (2, .iconst 2, 1) := by decide +kernel
theorem cd164_316 : tt_cd 164 316 = (2, .iadd, 1) := by decide +kernel
theorem cd164_317 : tt_cd 164 317 = (3, .iaload, 1) := by decide +kernel
theorem cd164_318 : tt_cd 164 318 = (1, .aload_n 0, 1) := by decide +kernel
theorem cd164_319 : tt_cd 164 319 = (1, .iload_n 3, 1) := by decide +kernel
theorem cd164_320 : tt_cd 164 320 = (2, .iconst 3, 1) := by decide +kernel
theorem cd164_321 : tt_cd 164 321 = (2, .iadd, 1) := by decide +kernel
theorem cd164_322 : tt_cd 164 322 = (3, .iaload, 1) := by decide +kernel
theorem cd164_323 : tt_cd 164 323 = (10, .invokevirtual 37, 3) := by decide +kernel
theorem cd164_326 : tt_cd 164 326 = (1, .aload_n 2, 1) := by decide +kernel
theorem cd164_327 : tt_cd 164 327 = (1, .aload_n 0, 1) := by decide +kernel
theorem cd164_328 : tt_cd 164 328 = (1, .iload_n 3, 1) := by decide +kernel
theorem cd164_329 : tt_cd 164 329 = (2, .iconst 1, 1) := by decide +kernel
theorem cd164_330 : tt_cd 164 330 = (2, .iadd, 1) := by decide +kernel
theorem cd164_331 : tt_cd 164 331 = (3, .iaload, 1) := by decide +kernel
theorem cd164_332 : tt_cd 164 332 = (1, .aload_n 0, 1) := by decide +kernel
theorem cd164_333 : tt_cd 164 333 = (1, .iload_n 3, 1) := by decide +kernel
theorem cd164_334 : tt_cd 164 334 = (2, .iconst 2, 1) := by decide +kernel
theorem cd164_335 : tt_cd 164 335 = (2, .iadd, 1) := by decide +kernel
theorem cd164_336 : tt_cd 164 336 = (3, .iaload, 1) := by decide +kernel
theorem cd164_337 : tt_cd 164 337 = (1, .aload_n 0, 1) := by decide +kernel
theorem cd164_338 : tt_cd 164 338 = (1, .iload_n 3, 1) := by decide +kernel
theorem cd164_339 : tt_cd 164 339 = (2, .iconst 3, 1) := by decide +kernel
theorem cd164_340 : tt_cd 164 340 = (2, .iadd, 1) := by decide +kernel
theorem cd164_341 : tt_cd 164 341 = (3, .iaload, 1) := by decide +kernel
theorem cd164_342 : tt_cd 164 342 = (10, .invokevirtual 41, 3) := by decide +kernel
theorem cd164_345 : tt_cd 164 345 = (5, .if_icmp .eq 605, 3) := by decide +kernel
theorem cd164_350 : tt_cd 164 350 = (1, .aload_n 1, 1) := by decide +kernel
theorem cd164_351 : tt_cd 164 351 = (1, .aload_n 0, 1) := by decide +kernel
theorem cd164_352 : tt_cd 164 352 = (1, .iload_n 3, 1) := by decide +kernel
theorem cd164_353 : tt_cd 164 353 = (2, .iconst 1, 1) := by decide +kernel
theorem cd164_354 : tt_cd 164 354 = (2, .iadd, 1) := by decide +kernel
theorem cd164_355 : tt_cd 164 355 = (3, .iaload, 1) := by decide +kernel
theorem cd164_356 : tt_cd 164 356 = (1, .aload_n 0, 1) := by decide +kernel
theorem cd164_357 : tt_cd 164 357 = (1, .iload_n 3, 1) := by decide +kernel
theorem cd164_358 : tt_cd 164 358 = (2, .iconst 2, 1) := by decide +kernel
theorem cd164_359 : tt_cd 164 359 = (2, .iadd, 1) := by decide +kernel
theorem cd164_360 : tt_cd 164 360 = (3, .iaload, 1) := by decide +kernel
theorem cd164_361 : tt_cd 164 361 = (10, .invokevirtual 42, 3) := by decide +kernel
theorem cd164_364 : tt_cd 164 364 = (1, .aload_n 2, 1) := by decide +kernel
theorem cd164_365 : tt_cd 164 365 = (1, .aload_n 0, 1) := by decide +kernel
theorem cd164_366 : tt_cd 164 366 = (1, .iload_n 3, 1) := by decide +kernel
theorem cd164_367 : tt_cd 164 367 = (2, .iconst 1, 1) := by decide +kernel
theorem cd164_368 : tt_cd 164 368 = (2, .iadd, 1) := by decide +kernel
theorem cd164_369 : tt_cd 164 369 = (3, .iaload, 1) := by decide +kernel
theorem cd164_370 : tt_cd 164 370 = (1, .aload_n 0, 1) := by decide +kernel
theorem cd164_371 : tt_cd 164 371 = (1, .iload_n 3, 1) := by decide +kernel
theorem cd164_372 : tt_cd 164 372 = (2, .iconst 2, 1) := by decide +kernel
theorem cd164_373 : tt_cd 164 373 = (2, .iadd, 1) := by decide +kernel
theorem cd164_374 : tt_cd 164 374 = (3, .iaload, 1) := by decide +kernel
theorem cd164_375 : tt_cd 164 375 = (10, .invokevirtual 45, 3) := by decide +kernel
theorem cd164_378 : tt_cd 164 378 = (5, .if_icmp .eq 572, 3) := by decide +kernel
theorem cd164_383 : tt_cd 164 383 = (1, .aload_n 1, 1) := by decide +kernel
theorem cd164_384 : tt_cd 164 384 = (1, .aload_n 0, 1) := by decide +kernel
theorem cd164_385 : tt_cd 164 385 = (1, .iload_n 3, 1) := by decide +kernel
theorem cd164_386 : tt_cd 164 386 = (2, .iconst 1, 1) := by decide +kernel
theorem cd164_387 : tt_cd 164 387 = (2, .iadd, 1) := by decide +kernel
theorem cd164_388 : tt_cd 164 388 = (3, .iaload, 1) := by decide +kernel
theorem cd164_389 : tt_cd 164 389 = (1, .aload_n 0, 1) := by decide +kernel
theorem cd164_390 : tt_cd 164 390 = (1, .iload_n 3, 1) := by decide +kernel
theorem cd164_391 : tt_cd 164 391 = (2, .iconst 2, 1) := by decide +kernel
theorem cd164_392 : tt_cd 164 392 = (2, .iadd, 1) := by decide +kernel
theorem cd164_393 : tt_cd 164 393 = (3, .iaload, 1) := by decide +kernel
theorem cd164_394 : tt_cd 164 394 = (10, .invokevirtual 46, 3) := by decide +kernel
theorem cd164_397 : tt_cd 164 397 = (1, .aload_n 2, 1) := by decide +kernel
theorem cd164_398 : tt_cd 164 398 = (1, .aload_n 0, 1) := by decide +kernel
theorem cd164_399 : tt_cd 164 399 = (1, .iload_n 3, 1) := by decide +kernel
theorem cd164_400 : tt_cd 164 400 = (2, .iconst 1, 1) := by decide +kernel
theorem cd164_401 : tt_cd 164 401 = (2, .iadd, 1) := by decide +kernel
theorem cd164_402 : tt_cd 164 402 = (3, .iaload, 1) := by decide +kernel
theorem cd164_403 : tt_cd 164 403 = (1, .aload_n 0, 1) := by decide +kernel
theorem cd164_404 : tt_cd 164 404 = (1, .iload_n 3, 1) := by decide +kernel
theorem cd164_405 : tt_cd 164 405 = (2, .iconst 2, 1) := by decide +kernel
theorem cd164_406 : tt_cd 164 406 = (2, .iadd, 1) := by decide +kernel
theorem cd164_407 : tt_cd 164 407 = (3, .iaload, 1) := by decide +kernel
theorem cd164_408 : tt_cd 164 408 = (10, .invokevirtual 49, 3) := by decide +kernel
theorem cd164_411 : tt_cd 164 411 = (5, .if_icmp .eq 539, 3) := by decide +kernel
theorem cd164_416 : tt_cd 164 416 = (1, .aload_n 1, 1) := by decide +kernel
theorem cd164_417 : tt_cd 164 417 = (1, .aload_n 0, 1) := by decide +kernel
theorem cd164_418 : tt_cd 164 418 = (1, .iload_n 3, 1) := by decide +kernel
theorem cd164_419 : tt_cd 164 419 = (2, .iconst 1, 1) := by decide +kernel
theorem cd164_420 : tt_cd 164 420 = (2, .iadd, 1) := by decide +kernel
theorem cd164_421 : tt_cd 164 421 = (3, .iaload, 1) := by decide +kernel
theorem cd164_422 : tt_cd 164 422 = (1, .aload_n 0, 1) := by decide +kernel
theorem cd164_423 : tt_cd 164 423 = (1, .iload_n 3, 1) := by decide +kernel
theorem cd164_424 : tt_cd 164 424 = (2, .iconst 2, 1) := by decide +kernel
theorem cd164_425 : tt_cd 164 425 = (2, .iadd, 1) := by decide +kernel
theorem cd164_426 : tt_cd 164 426 = (3, .iaload, 1) := by decide +kernel
theorem cd164_427 : tt_cd 164 427 = (10, .invokevirtual 50, 3) := by decide +kernel
theorem cd164_430 : tt_cd 164 430 = (1, .aload_n 2, 1) := by decide +kernel
theorem cd164_431 : tt_cd 164 431 = (1, .aload_n 0, 1) := by decide +kernel
theorem cd164_432 : tt_cd 164 432 = (1, .iload_n 3, 1) := by decide +kernel
theorem cd164_433 : tt_cd 164 433 = (2, .iconst 1, 1) := by decide +kernel
theorem cd164_434 : tt_cd 164 434 = (2, .iadd, 1) := by decide +kernel
theorem cd164_435 : tt_cd 164 435 = (3, .iaload, 1) := by decide +kernel
theorem cd164_436 : tt_cd 164 436 = (1, .aload_n 0, 1) := by decide +kernel
theorem cd164_437 : tt_cd 164 437 = (1, .iload_n 3, 1) := by decide +kernel
theorem cd164_438 : tt_cd 164 438 = (2, .iconst 2, 1) := by decide +kernel
theorem cd164_439 : tt_cd 164 439 = (2, .iadd, 1) := by decide +kernel
theorem cd164_440 : tt_cd 164 440 = (3, .iaload, 1) := by decide +kernel
theorem cd164_441 : tt_cd 164 441 = (10, .invokevirtual 53, 3) := by decide +kernel
theorem cd164_444 : tt_cd 164 444 = (5, .if_icmp .eq 506, 3) := by decide +kernel
theorem cd164_449 : tt_cd 164 449 = (1, .aload_n 1, 1) := by decide +kernel
theorem cd164_450 : tt_cd 164 450 = (1, .aload_n 0, 1) := by decide +kernel
theorem cd164_451 : tt_cd 164 451 = (1, .iload_n 3, 1) := by decide +kernel
theorem cd164_452 : tt_cd 164 452 = (2, .iconst 1, 1) := by decide +kernel
theorem cd164_453 : tt_cd 164 453 = (2, .iadd, 1) := by decide +kernel
theorem cd164_454 : tt_cd 164 454 = (3, .iaload, 1) := by decide +kernel
theorem cd164_455 : tt_cd 164 455 = (1, .aload_n 0, 1) := by decide +kernel
theorem cd164_456 : tt_cd 164 456 = (1, .iload_n 3, 1) := by decide +kernel
theorem cd164_457 : tt_cd 164 457 = (2, .iconst 2, 1) := by decide +kernel
theorem cd164_458 : tt_cd 164 458 = (2, .iadd, 1) := by decide +kernel
theorem cd164_459 : tt_cd 164 459 = (3, .iaload, 1) := by decide +kernel
theorem cd164_460 : tt_cd 164 460 = (1, .aload_n 0, 1) := by decide +kernel
theorem cd164_461 : tt_cd 164 461 = (1, .iload_n 3, 1) := by decide +kernel
theorem cd164_462 : tt_cd 164 462 = (2, .iconst 3, 1) := by decide +kernel
theorem cd164_463 : tt_cd 164 463 = (2, .iadd, 1) := by decide +kernel
theorem cd164_464 : tt_cd 164 464 = (3, .iaload, 1) := by decide +kernel
theorem cd164_465 : tt_cd 164 465 = (10, .invokevirtual 54, 3) := by decide +kernel
theorem cd164_468 : tt_cd 164 468 = (1, .aload_n 2, 1) := by decide +kernel
theorem cd164_469 : tt_cd 164 469 = (1, .aload_n 0, 1) := by decide +kernel
theorem cd164_470 : tt_cd 164 470 = (1, .iload_n 3, 1) := by decide +kernel
theorem cd164_471 : tt_cd 164 471 = (2, .iconst 1, 1) := by decide +kernel
theorem cd164_472 : tt_cd 164 472 = (2, .iadd, 1) := by decide +kernel
theorem cd164_473 : tt_cd 164 473 = (3, .iaload, 1) := by decide +kernel
theorem cd164_474 : tt_cd 164 474 = (1, .aload_n 0, 1) := by decide +kernel
theorem cd164_475 : tt_cd 164 475 = (1, .iload_n 3, 1) := by decide +kernel
theorem cd164_476 : tt_cd 164 476 = (2, .iconst 2, 1) := by decide +kernel
theorem cd164_477 : tt_cd 164 477 = (2, .iadd, 1) := by decide +kernel
theorem cd164_478 : tt_cd 164 478 = (3, .iaload, 1) := by decide +kernel
theorem cd164_479 : tt_cd 164 479 = (1, .aload_n 0, 1) := by decide +kernel
theorem cd164_480 : tt_cd 164 480 = (1, .iload_n 3, 1) := by decide +kernel
theorem cd164_481 : tt_cd 164 481 = (2, .iconst 3, 1) := by decide +kernel
theorem cd164_482 : tt_cd 164 482 = (2, .iadd, 1) := by decide +kernel
theorem cd164_483 : tt_cd 164 483 = (3, .iaload, 1) := by decide +kernel
theorem cd164_484 : tt_cd 164 484 = (10, .invokevirtual 57, 3) := by decide +kernel
theorem cd164_487 : tt_cd 164 487 = (5, .if_icmp .eq 463, 3) := by decide +kernel
theorem cd164_492 : tt_cd 164 492 = (1, .aload_n 1, 1) := by decide +kernel
theorem cd164_493 : tt_cd 164 493 = (1, .aload_n 0, 1) := by decide +kernel
theorem cd164_494 : tt_cd 164 494 = (1, .iload_n 3, 1) := by decide +kernel
theorem cd164_495 : tt_cd 164 495 = (2, .iconst 1, 1) := by decide +kernel
theorem cd164_496 : tt_cd 164 496 = (2, .iadd, 1) := by decide +kernel
theorem cd164_497 : tt_cd 164 497 = (3, .iaload, 1) := by decide +kernel
theorem cd164_498 : tt_cd 164 498 = (1, .aload_n 0, 1) := by decide +kernel
theorem cd164_499 : tt_cd 164 499 = (1, .iload_n 3, 1) := by decide +kernel
theorem cd164_500 : tt_cd 164 500 = (2, .iconst 2, 1) := by decide +kernel
theorem cd164_501 : tt_cd 164 501 = (2, .iadd, 1) := by decide +kernel
theorem cd164_502 : tt_cd 164 502 = (3, .iaload, 1) := by decide +kernel
theorem cd164_503 : tt_cd 164 503 = (10, .invokevirtual 58, 3) := by decide +kernel
theorem cd164_506 : tt_cd 164 506 = (1, .aload_n 2, 1) := by decide +kernel
theorem cd164_507 : tt_cd 164 507 = (1, .aload_n 0, 1) := by decide +kernel
theorem cd164_508 : tt_cd 164 508 = (1, .iload_n 3, 1) := by decide +kernel
theorem cd164_509 : tt_cd 164 509 = (2, .iconst 1, 1) := by decide +kernel
theorem cd164_510 : tt_cd 164 510 = (2, .iadd, 1) := by decide +kernel
theorem cd164_511 : tt_cd 164 511 = (3, .iaload, 1) := by decide +kernel
theorem cd164_512 : tt_cd 164 512 = (1, .aload_n 0, 1) := by decide +kernel
theorem cd164_513 : tt_cd 164 513 = (1, .iload_n 3, 1) := by decide +kernel
theorem cd164_514 : tt_cd 164 514 = (2, .iconst 2, 1) := by decide +kernel
theorem cd164_515 : tt_cd 164 515 = (2, .iadd, 1) := by decide +kernel
theorem cd164_516 : tt_cd 164 516 = (3, .iaload, 1) := by decide +kernel
theorem cd164_517 : tt_cd 164 517 = (10, .invokevirtual 61, 3) := by decide +kernel
theorem cd164_520 : tt_cd 164 520 = (5, .if_icmp .eq 430, 3) := by decide +kernel
theorem cd164_525 : tt_cd 164 525 = (1, .aload_n 1, 1) := by decide +kernel
theorem cd164_526 : tt_cd 164 526 = (10, .invokevirtual 62, 3) := by decide +kernel
theorem cd164_529 : tt_cd 164 529 = (1, .aload_n 2, 1) := by decide +kernel
theorem cd164_530 : tt_cd 164 530 = (10, .invokevirtual 65, 3) := by decide +kernel
theorem cd164_533 : tt_cd 164 533 = (5, .if_icmp .eq 417, 3) := by decide +kernel
theorem cd164_538 : tt_cd 164 538 = (1, .aload_n 1, 1) := by decide +kernel
theorem cd164_539 : tt_cd 164 539 = (10, .invokevirtual 66, 3) := by decide +kernel
theorem cd164_542 : tt_cd 164 542 = (1, .aload_n 2, 1) := by decide +kernel
theorem cd164_543 : tt_cd 164 543 = (10, .invokevirtual 69, 3) := by decide +kernel
theorem cd164_546 : tt_cd 164 546 = (5, .if_icmp .eq 404, 3) := by decide +kernel
theorem cd164_551 : tt_cd 164 551 = (1, .aload_n 1, 1) := by decide +kernel
theorem cd164_552 : tt_cd 164 552 = (1, .aload_n 0, 1) := by decide +kernel
theorem cd164_553 : tt_cd 164 553 = (1, .iload_n 3, 1) := by decide +kernel
theorem cd164_554 : tt_cd 164 554 = (2, .iconst 1, 1) := by decide +kernel
theorem cd164_555 : tt_cd 164 555 = (2, .iadd, 1) := by decide +kernel
theorem cd164_556 : tt_cd 164 556 = (3, .iaload, 1) := by decide +kernel
theorem cd164_557 : tt_cd 164 557 = (1, .aload_n 0, 1) := by decide +kernel
theorem cd164_558 : tt_cd 164 558 = (1, .iload_n 3, 1) := by decide +kernel
theorem cd164_559 : tt_cd 164 559 = (2, .iconst 2, 1) := by decide +kernel
theorem cd164_560 : tt_cd 164 560 = (2, .iadd, 1) := by decide +kernel
theorem cd164_561 : tt_cd 164 561 = (3, .iaload, 1) := by decide +kernel
theorem cd164_562 : tt_cd 164 562 = (1, .aload_n 0, 1) := by decide +kernel
theorem cd164_563 : tt_cd 164 563 = (1, .iload_n 3, 1) := by decide +kernel
theorem cd164_564 : tt_cd 164 564 = (2, .iconst 3, 1) := by decide +kernel
theorem cd164_565 : tt_cd 164 565 = (2, .iadd, 1) := by decide +kernel
theorem cd164_566 : tt_cd 164 566 = (3, .iaload, 1) := by decide +kernel
theorem cd164_567 : tt_cd 164 567 = (1, .aload_n 0, 1) := by decide +kernel
theorem cd164_568 : tt_cd 164 568 = (1, .iload_n 3, 1) := by decide +kernel
theorem cd164_569 : tt_cd 164 569 = (2, .iconst 4, 1) := by decide +kernel
theorem cd164_570 : tt_cd 164 570 = (2, .iadd, 1) := by decide +kernel
theorem cd164_571 : tt_cd 164 571 = (3, .iaload, 1) := by decide +kernel
theorem cd164_572 : tt_cd 164 572 = (10, .invokevirtual 70, 3) := by decide +kernel
theorem cd164_575 : tt_cd 164 575 = (1, .aload_n 2, 1) := by decide +kernel
theorem cd164_576 : tt_cd 164 576 = (1, .aload_n 0, 1) := by decide +kernel
theorem cd164_577 : tt_cd 164 577 = (1, .iload_n 3, 1) := by decide +kernel
theorem cd164_578 : tt_cd 164 578 = (2, .iconst 1, 1) := by decide +kernel
theorem cd164_579 : tt_cd 164 579 = (2, .iadd, 1) := by decide +kernel
theorem cd164_580 : tt_cd 164 580 = (3, .iaload, 1) := by decide +kernel
theorem cd164_581 : tt_cd 164 581 = (1, .aload_n 0, 1) := by decide +kernel
theorem cd164_582 : tt_cd 164 582 = (1, .iload_n 3, 1) := by decide +kernel
theorem cd164_583 : tt_cd 164 583 = (2, .iconst 2, 1) := by decide +kernel
theorem cd164_584 : tt_cd 164 584 = (2, .iadd, 1) := by decide +kernel
theorem cd164_585 : tt_cd 164 585 = (3, .iaload, 1) := by decide +kernel
theorem cd164_586 : tt_cd 164 586 = (1, .aload_n 0, 1) := by decide +kernel
theorem cd164_587 : tt_cd 164 587 = (1, .iload_n 3, 1) := by decide +kernel
theorem cd164_588 : tt_cd 164 588 = (2, .iconst 3, 1) := by decide +kernel
theorem cd164_589 : tt_cd 164 589 = (2, .iadd, 1) := by decide +kernel
theorem cd164_590 : tt_cd 164 590 = (3, .iaload, 1) := by decide +kernel
theorem cd164_591 : tt_cd 164 591 = (1, .aload_n 0, 1) := by decide +kernel
theorem cd164_592 : tt_cd 164 592 = (1, .iload_n 3, 1) := by decide +kernel
theorem cd164_593 : tt_cd 164 593 = (2, .iconst 4, 1) := by decide +kernel
theorem cd164_594 : tt_cd 164 594 = (2, .iadd, 1) := by decide +kernel
theorem cd164_595 : tt_cd 164 595 = (3, .iaload, 1) := by decide +kernel
theorem cd164_596 : tt_cd 164 596 = (10, .invokevirtual 74, 3) := by decide +kernel
theorem cd164_599 : tt_cd 164 599 = (5, .if_icmp .eq 351, 3) := by decide +kernel
theorem cd164_604 : tt_cd 164 604 = (1, .aload_n 1, 1) := by decide +kernel
theorem cd164_605 : tt_cd 164 605 = (1, .aload_n 0, 1) := by decide +kernel
theorem cd164_606 : tt_cd 164 606 = (1, .iload_n 3, 1) := by decide +kernel
theorem cd164_607 : tt_cd 164 607 = (2, .iconst 1, 1) := by decide +kernel
theorem cd164_608 : tt_cd 164 608 = (2, .iadd, 1) := by decide +kernel
theorem cd164_609 : tt_cd 164 609 = (3, .iaload, 1) := by decide +kernel
theorem cd164_610 : tt_cd 164 610 = (1, .aload_n 0, 1) := by decide +kernel
theorem cd164_611 : tt_cd 164 611 = (1, .iload_n 3, 1) := by decide +kernel
theorem cd164_612 : tt_cd 164 612 = (2, .iconst 2, 1) := by decide +kernel
theorem cd164_613 : tt_cd 164 613 = (2, .iadd, 1) := by decide +kernel
theorem cd164_614 : tt_cd 164 614 = (3, .iaload, 1) := by decide +kernel
theorem cd164_615 : tt_cd 164 615 = (10, .invokevirtual 75, 3) := by decide +kernel
theorem cd164_618 : tt_cd 164 618 = (1, .aload_n 2, 1) := by decide +kernel
theorem cd164_619 : tt_cd 164 619 = (1, .aload_n 0, 1) := by decide +kernel
theorem cd164_620 : tt_cd 164 620 = (1, .iload_n 3, 1) := by decide +kernel
theorem cd164_621 : tt_cd 164 621 = (2, .iconst 1, 1) := by decide +kernel
theorem cd164_622 : tt_cd 164 622 = (2, .iadd, 1) := by decide +kernel
theorem cd164_623 : tt_cd 164 623 = (3, .iaload, 1) := by decide +kernel
theorem cd164_624 : tt_cd 164 624 = (1, .aload_n 0, 1) := by decide +kernel
theorem cd164_625 : tt_cd 164 625 = (1, .iload_n 3, 1) := by decide +kernel
theorem cd164_626 : tt_cd 164 626 = (2, .iconst 2, 1) := by decide +kernel
theorem cd164_627 : tt_cd 164 627 = (2, .iadd, 1) := by decide +kernel
theorem cd164_628 : tt_cd 164 628 = (3, .iaload, 1) := by decide +kernel
theorem cd164_629 : tt_cd 164 629 = (10, .invokevirtual 78, 3) := by decide +kernel
theorem cd164_632 : tt_cd 164 632 = (5, .if_icmp .eq 318, 3) := by decide +kernel
theorem cd164_637 : tt_cd 164 637 = (1, .aload_n 1, 1) := by decide +kernel
theorem cd164_638 : tt_cd 164 638 = (1, .aload_n 0, 1) := by decide +kernel
theorem cd164_639 : tt_cd 164 639 = (1, .iload_n 3, 1) := by decide +kernel
theorem cd164_640 : tt_cd 164 640 = (2, .iconst 1, 1) := by decide +kernel
theorem cd164_641 : tt_cd 164 641 = (2, .iadd, 1) := by decide +kernel
theorem cd164_642 : tt_cd 164 642 = (3, .iaload, 1) := by decide +kernel
theorem cd164_643 : tt_cd 164 643 = (10, .invokevirtual 79, 3) := by decide +kernel
theorem cd164_646 : tt_cd 164 646 = (1, .aload_n 2, 1) := by decide +kernel
theorem cd164_647 : tt_cd 164 647 = (1, .aload_n 0, 1) := by decide +kernel
theorem cd164_648 : tt_cd 164 648 = (1, .iload_n 3, 1) := by decide +kernel
theorem cd164_649 : tt_cd 164 649 = (2, .iconst 1, 1) := by decide +kernel
theorem cd164_650 : tt_cd 164 650 = (2, .iadd, 1) := by decide +kernel
theorem cd164_651 : tt_cd 164 651 = (3, .iaload, 1) := by decide +kernel
theorem cd164_652 : tt_cd 164 652 = (10, .invokevirtual 82, 3) := by decide +kernel
theorem cd164_655 : tt_cd 164 655 = (5, .if_icmp .eq 295, 3) := by decide +kernel
theorem cd164_660 : tt_cd 164 660 = (1, .aload_n 1, 1) := by decide +kernel
theorem cd164_661 : tt_cd 164 661 = (1, .aload_n 0, 1) := by decide +kernel
theorem cd164_662 : tt_cd 164 662 = (1, .iload_n 3, 1) := by decide +kernel
theorem cd164_663 : tt_cd 164 663 = (2, .iconst 1, 1) := by decide +kernel
theorem cd164_664 : tt_cd 164 664 = (2, .iadd, 1) := by decide +kernel
theorem cd164_665 : tt_cd 164 665 = (3, .iaload, 1) := by decide +kernel
theorem cd164_666 : tt_cd 164 666 = (10, .invokevirtual 83, 3) := by decide +kernel
theorem cd164_669 : tt_cd 164 669 = (1, .aload_n 2, 1) := by decide +kernel
theorem cd164_670 : tt_cd 164 670 = (1, .aload_n 0, 1) := by decide +kernel
theorem cd164_671 : tt_cd 164 671 = (1, .iload_n 3, 1) := by decide +kernel
theorem cd164_672 : tt_cd 164 672 = (2, .iconst 1, 1) := by decide +kernel
theorem cd164_673 : tt_cd 164 673 = (2, .iadd, 1) := by decide +kernel
theorem cd164_674 : tt_cd 164 674 = (3, .iaload, 1) := by decide +kernel
theorem cd164_675 : tt_cd 164 675 = (10, .invokevirtual 86, 3) := by decide +kernel
theorem cd164_678 : tt_cd 164 678 = (5, .if_icmp .eq 272, 3) := by decide +kernel
theorem cd164_683 : tt_cd 164 683 = (1, .aload_n 1, 1) := by decide +kernel
theorem cd164_684 : tt_cd 164 684 = (1, .aload_n 0, 1) := by decide +kernel
theorem cd164_685 : tt_cd 164 685 = (1, .iload_n 3, 1) := by decide +kernel
theorem cd164_686 : tt_cd 164 686 = (2, .iconst 1, 1) := by decide +kernel
theorem cd164_687 : tt_cd 164 687 = (2, .iadd, 1) := by decide +kernel
theorem cd164_688 : tt_cd 164 688 = (3, .iaload, 1) := by decide +kernel
theorem cd164_689 : tt_cd 164 689 = (1, .aload_n 0, 1) := by decide +kernel
theorem cd164_690 : tt_cd 164 690 = (1, .iload_n 3, 1) := by decide +kernel
theorem cd164_691 : tt_cd 164 691 = (2, .iconst 2, 1) := by decide +kernel
theorem cd164_692 : tt_cd 164 692 = (2, .iadd, 1) := by decide +kernel
theorem cd164_693 : tt_cd 164 693 = (3, .iaload, 1) := by decide +kernel
theorem cd164_694 : tt_cd 164 694 = (10, .invokevirtual 87, 3) := by decide +kernel
theorem cd164_697 : tt_cd 164 697 = (1, .aload_n 2, 1) := by decide +kernel
theorem cd164_698 : tt_cd 164 698 = (1, .aload_n 0, 1) := by decide +kernel
theorem cd164_699 : tt_cd 164 699 = (1, .iload_n 3, 1) := by decide +kernel
theorem cd164_700 : tt_cd 164 700 = (2, .iconst 1, 1) := by decide +kernel
theorem cd164_701 : tt_cd 164 701 = (2, .iadd, 1) := by decide +kernel
theorem cd164_702 : tt_cd 164 702 = (3, .iaload, 1) := by decide +kernel
theorem cd164_703 : tt_cd 164 703 = (1, .aload_n 0, 1) := by decide +kernel
theorem cd164_704 : tt_cd 164 704 = (1, .iload_n 3, 1) := by decide +kernel
theorem cd164_705 : tt_cd 164 705 = (2, .iconst 2, 1) := by decide +kernel
theorem cd164_706 : tt_cd 164 706 = (2, .iadd, 1) := by decide +kernel
theorem cd164_707 : tt_cd 164 707 = (3, .iaload, 1) := by decide +kernel
theorem cd164_708 : tt_cd 164 708 = (10, .invokevirtual 90, 3) := by decide +kernel
theorem cd164_711 : tt_cd 164 711 = (5, .if_icmp .eq 239, 3) := by decide +kernel
theorem cd164_716 : tt_cd 164 716 = (1, .aload_n 1, 1) := by decide +kernel
theorem cd164_717 : tt_cd 164 717 = (1, .aload_n 0, 1) := by decide +kernel
theorem cd164_718 : tt_cd 164 718 = (1, .iload_n 3, 1) := by decide +kernel
theorem cd164_719 : tt_cd 164 719 = (2, .iconst 1, 1) := by decide +kernel
theorem cd164_720 : tt_cd 164 720 = (2, .iadd, 1) := by decide +kernel
theorem cd164_721 : tt_cd 164 721 = (3, .iaload, 1) := by decide +kernel
theorem cd164_722 : tt_cd 164 722 = (10, .invokevirtual 91, 3) := by decide +kernel
theorem cd164_725 : tt_cd 164 725 = (1, .aload_n 2, 1) := by decide +kernel
theorem cd164_726 : tt_cd 164 726 = (1, .aload_n 0, 1) := by decide +kernel
theorem cd164_727 : tt_cd 164 727 = (1, .iload_n 3, 1) := by decide +kernel
theorem cd164_728 : tt_cd 164 728 = (2, .iconst 1, 1) := by decide +kernel
theorem cd164_729 : tt_cd 164 729 = (2, .iadd, 1) := by decide +kernel
theorem cd164_730 : tt_cd 164 730 = (3, .iaload, 1) := by decide +kernel
theorem cd164_731 : tt_cd 164 731 = (10, .invokevirtual 94, 3) := by decide +kernel
theorem cd164_734 : tt_cd 164 734 = (5, .if_icmp .eq 216, 3) := by decide +kernel
theorem cd164_739 : tt_cd 164 739 = (1, .aload_n 1, 1) := by decide +kernel
theorem cd164_740 : tt_cd 164 740 = (1, .aload_n 0, 1) := by decide +kernel
theorem cd164_741 : tt_cd 164 741 = (1, .iload_n 3, 1) := by decide +kernel
theorem cd164_742 : tt_cd 164 742 = (2, .iconst 1, 1) := by decide +kernel
theorem cd164_743 : tt_cd 164 743 = (2, .iadd, 1) := by decide +kernel
theorem cd164_744 : tt_cd 164 744 = (3, .iaload, 1) := by decide +kernel
theorem cd164_745 : tt_cd 164 745 = (1, .aload_n 0, 1) := by decide +kernel
theorem cd164_746 : tt_cd 164 746 = (1, .iload_n 3, 1) := by decide +kernel
theorem cd164_747 : tt_cd 164 747 = (2, .iconst 2, 1) := by decide +kernel
theorem cd164_748 : tt_cd 164 748 = (2, .iadd, 1) := by decide +kernel
theorem cd164_749 : tt_cd 164 749 = (3, .iaload, 1) := by decide +kernel
theorem cd164_750 : tt_cd 164 750 = (10, .invokevirtual 95, 3) := by decide +kernel
theorem cd164_753 : tt_cd 164 753 = (1, .aload_n 2, 1) := by decide +kernel
theorem cd164_754 : tt_cd 164 754 = (1, .aload_n 0, 1) := by decide +kernel
theorem cd164_755 : tt_cd 164 755 = (1, .iload_n 3, 1) := by decide +kernel
theorem cd164_756 : tt_cd 164 756 = (2, .iconst 1, 1) := by decide +kernel
theorem cd164_757 : tt_cd 164 757 = (2, .iadd, 1) := by decide +kernel
theorem cd164_758 : tt_cd 164 758 = (3, .iaload, 1) := by decide +kernel
theorem cd164_759 : tt_cd 164 759 = (1, .aload_n 0, 1) := by decide +kernel
theorem cd164_760 : tt_cd 164 760 = (1, .iload_n 3, 1) := by decide +kernel
theorem cd164_761 : tt_cd 164 761 = (2, .iconst 2, 1) := by decide +kernel
theorem cd164_762 : tt_cd 164 762 = (2, .iadd, 1) := by decide +kernel
theorem cd164_763 : tt_cd 164 763 = (3, .iaload, 1) := by decide +kernel
theorem cd164_764 : tt_cd 164 764 = (10, .invokevirtual 98, 3) := by decide +kernel
theorem cd164_767 : tt_cd 164 767 = (5, .if_icmp .eq 183, 3) := by decide +kernel
theorem cd164_772 : tt_cd 164 772 = (1, .aload_n 1, 1) := by decide +kernel
theorem cd164_773 : tt_cd 164 773 = (1, .aload_n 0, 1) := by decide +kernel
theorem cd164_774 : tt_cd 164 774 = (1, .iload_n 3, 1) := by decide +kernel
theorem cd164_775 : tt_cd 164 775 = (2, .iconst 1, 1) := by decide +kernel
theorem cd164_776 : tt_cd 164 776 = (2, .iadd, 1) := by decide +kernel
theorem cd164_777 : tt_cd 164 777 = (3, .iaload, 1) := by decide +kernel
theorem cd164_778 : tt_cd 164 778 = (1, .aload_n 0, 1) := by decide +kernel
theorem cd164_779 : tt_cd 164 779 = (1, .iload_n 3, 1) := by decide +kernel
theorem cd164_780 : tt_cd 164 780 = (2, .iconst 2, 1) := by decide +kernel
theorem cd164_781 : tt_cd 164 781 = (2, .iadd, 1) := by decide +kernel
theorem cd164_782 : tt_cd 164 782 = (3, .iaload, 1) := by decide +kernel
theorem cd164_783 : tt_cd 164 783 = (10, .invokevirtual 99, 3) := by decide +kernel
theorem cd164_786 : tt_cd 164 786 = (1, .aload_n 2, 1) := by decide +kernel
theorem cd164_787 : tt_cd 164 787 = (1, .aload_n 0, 1) := by decide +kernel
theorem cd164_788 : tt_cd 164 788 = (1, .iload_n 3, 1) := by decide +kernel
theorem cd164_789 : tt_cd 164 789 = (2, .iconst 1, 1) := by decide +kernel
theorem cd164_790 : tt_cd 164 790 = (2, .iadd, 1) := by decide +kernel
theorem cd164_791 : tt_cd 164 791 = (3, .iaload, 1) := by decide +kernel
theorem cd164_792 : tt_cd 164 792 = (1, .aload_n 0, 1) := by decide +kernel
theorem cd164_793 : tt_cd 164 793 = (1, .iload_n 3, 1) := by decide +kernel
theorem cd164_794 : tt_cd 164 794 = (2, .iconst 2, 1) := by decide +kernel
theorem cd164_795 : tt_cd 164 795 = (2, .iadd, 1) := by decide +kernel
theorem cd164_796 : tt_cd 164 796 = (3, .iaload, 1) := by decide +kernel
theorem cd164_797 : tt_cd 164 797 = (10, .invokevirtual 102, 3) := by decide +kernel
theorem cd164_800 : tt_cd 164 800 = (5, .if_icmp .eq 150, 3) := by decide +kernel
theorem cd164_805 : tt_cd 164 805 = (1, .aload_n 1, 1) := by decide +kernel
theorem cd164_806 : tt_cd 164 806 = (1, .aload_n 0, 1) := by decide +kernel
theorem cd164_807 : tt_cd 164 807 = (1, .iload_n 3, 1) := by decide +kernel
theorem cd164_808 : tt_cd 164 808 = (2, .iconst 1, 1) := by decide +kernel
theorem cd164_809 : tt_cd 164 809 = (2, .iadd, 1) := by decide +kernel
theorem cd164_810 : tt_cd 164 810 = (3, .iaload, 1) := by decide +kernel
theorem cd164_811 : tt_cd 164 811 = (10, .invokevirtual 103, 3) := by decide +kernel
theorem cd164_814 : tt_cd 164 814 = (1, .aload_n 2, 1) := by decide +kernel
theorem cd164_815 : tt_cd 164 815 = (1, .aload_n 0, 1) := by decide +kernel
theorem cd164_816 : tt_cd 164 816 = (1, .iload_n 3, 1) := by decide +kernel
theorem cd164_817 : tt_cd 164 817 = (2, .iconst 1, 1) := by decide +kernel
theorem cd164_818 : tt_cd 164 818 = (2, .iadd, 1) := by decide +kernel
theorem cd164_819 : tt_cd 164 819 = (3, .iaload, 1) := by decide +kernel
theorem cd164_820 : tt_cd 164 820 = (10, .invokevirtual 106, 3) := by decide +kernel
theorem cd164_823 : tt_cd 164 823 = (5, .if_icmp .eq 127, 3) := by decide +kernel
theorem cd164_828 : tt_cd 164 828 = (1, .aload_n 1, 1) := by decide +kernel
theorem cd164_829 : tt_cd 164 829 = (1, .aload_n 0, 1) := by decide +kernel
theorem cd164_830 : tt_cd 164 830 = (1, .iload_n 3, 1) := by decide +kernel
theorem cd164_831 : tt_cd 164 831 = (2, .iconst 1, 1) := by decide +kernel
theorem cd164_832 : tt_cd 164 832 = (2, .iadd, 1) := by decide +kernel
theorem cd164_833 : tt_cd 164 833 = (3, .iaload, 1) := by decide +kernel
theorem cd164_834 : tt_cd 164 834 = (1, .aload_n 0, 1) := by decide +kernel
theorem cd164_835 : tt_cd 164 835 = (1, .iload_n 3, 1) := by decide +kernel
theorem cd164_836 : tt_cd 164 836 = (2, .iconst 2, 1) := by decide +kernel
theorem cd164_837 : tt_cd 164 837 = (2, .iadd, 1) := by decide +kernel
theorem cd164_838 : tt_cd 164 838 = (3, .iaload, 1) := by decide +kernel
theorem cd164_839 : tt_cd 164 839 = (10, .invokevirtual 107, 3) := by decide +kernel
theorem cd164_842 : tt_cd 164 842 = (1, .aload_n 2, 1) := by decide +kernel
theorem cd164_843 : tt_cd 164 843 = (1, .aload_n 0, 1) := by decide +kernel
theorem cd164_844 : tt_cd 164 844 = (1, .iload_n 3, 1) := by decide +kernel
theorem cd164_845 : tt_cd 164 845 = (2, .iconst 1, 1) := by decide +kernel
theorem cd164_846 : tt_cd 164 846 = (2, .iadd, 1) := by decide +kernel
theorem cd164_847 : tt_cd 164 847 = (3, .iaload, 1) := by decide +kernel
theorem cd164_848 : tt_cd 164 848 = (1, .aload_n 0, 1) := by decide +kernel
theorem cd164_849 : tt_cd 164 849 = (1, .iload_n 3, 1) := by decide +kernel
theorem cd164_850 : tt_cd 164 850 = (2, .iconst 2, 1) := by decide +kernel
theorem cd164_851 : tt_cd 164 851 = (2, .iadd, 1) := by decide +kernel
theorem cd164_852 : tt_cd 164 852 = (3, .iaload, 1) := by decide +kernel
theorem cd164_853 : tt_cd 164 853 = (10, .invokevirtual 110, 3) := by decide +kernel
theorem cd164_856 : tt_cd 164 856 = (5, .if_icmp .eq 94, 3) := by decide +kernel
theorem cd164_861 : tt_cd 164 861 = (1, .aload_n 1, 1) := by decide +kernel
theorem cd164_862 : tt_cd 164 862 = (1, .aload_n 0, 1) := by decide +kernel
theorem cd164_863 : tt_cd 164 863 = (1, .iload_n 3, 1) := by decide +kernel
theorem cd164_864 : tt_cd 164 864 = (2, .iconst 1, 1) := by decide +kernel
theorem cd164_865 : tt_cd 164 865 = (2, .iadd, 1) := by decide +kernel
theorem cd164_866 : tt_cd 164 866 = (3, .iaload, 1) := by decide +kernel
theorem cd164_867 : tt_cd 164 867 = (1, .aload_n 0, 1) := by decide +kernel
theorem cd164_868 : tt_cd 164 868 = (1, .iload_n 3, 1) := by decide +kernel
theorem cd164_869 : tt_cd 164 869 = (2, .iconst 2, 1) := by decide +kernel
theorem cd164_870 : tt_cd 164 870 = (2, .iadd, 1) := by decide +kernel
theorem cd164_871 : tt_cd 164 871 = (3, .iaload, 1) := by decide +kernel
theorem cd164_872 : tt_cd 164 872 = (1, .aload_n 0, 1) := by decide +kernel
theorem cd164_873 : tt_cd 164 873 = (1, .iload_n 3, 1) := by decide +kernel
theorem cd164_874 : tt_cd 164 874 = (2, .iconst 3, 1) := by decide +kernel
theorem cd164_875 : tt_cd 164 875 = (2, .iadd, 1) := by decide +kernel
theorem cd164_876 : tt_cd 164 876 = (3, .iaload, 1) := by decide +kernel
theorem cd164_877 : tt_cd 164 877 = (10, .invokevirtual 111, 3) := by decide +kernel
theorem cd164_880 : tt_cd 164 880 = (1, .aload_n 2, 1) := by decide +kernel
theorem cd164_881 : tt_cd 164 881 = (1, .aload_n 0, 1) := by decide +kernel
theorem cd164_882 : tt_cd 164 882 = (1, .iload_n 3, 1) := by decide +kernel
theorem cd164_883 : tt_cd 164 883 = (2, .iconst 1, 1) := by decide +kernel
theorem cd164_884 : tt_cd 164 884 = (2, .iadd, 1) := by decide +kernel
theorem cd164_885 : tt_cd 164 885 = (3, .iaload, 1) := by decide +kernel
theorem cd164_886 : tt_cd 164 886 = (1, .aload_n 0, 1) := by decide +kernel
theorem cd164_887 : tt_cd 164 887 = (1, .iload_n 3, 1) := by decide +kernel
theorem cd164_888 : tt_cd 164 888 = (2, .iconst 2, 1) := by decide +kernel
theorem cd164_889 : tt_cd 164 889 = (2, .iadd, 1) := by decide +kernel
theorem cd164_890 : tt_cd 164 890 = (3, .iaload, 1) := by decide +kernel
theorem cd164_891 : tt_cd 164 891 = (1, .aload_n 0, 1) := by decide +kernel
theorem cd164_892 : tt_cd 164 892 = (1, .iload_n 3, 1) := by decide +kernel
theorem cd164_893 : tt_cd 164 893 = (2, .iconst 3, 1) := by decide +kernel
theorem cd164_894 : tt_cd 164 894 = (2, .iadd, 1) := by decide +kernel
theorem cd164_895 : tt_cd 164 895 = (3, .iaload, 1) := by decide +kernel
theorem cd164_896 : tt_cd 164 896 = (10, .invokevirtual 114, 3) := by decide +kernel
theorem cd164_899 : tt_cd 164 899 = (5, .if_icmp .eq 51, 3) := by decide +kernel
theorem cd164_904 : tt_cd 164 904 = (1, .aload_n 1, 1) := by decide +kernel
theorem cd164_905 : tt_cd 164 905 = (1, .aload_n 0, 1) := by decide +kernel
theorem cd164_906 : tt_cd 164 906 = (1, .iload_n 3, 1) := by decide +kernel
theorem cd164_907 : tt_cd 164 907 = (2, .iconst 1, 1) := by decide +kernel
theorem cd164_908 : tt_cd 164 908 = (2, .iadd, 1) := by decide +kernel
theorem cd164_909 : tt_cd 164 909 = (3, .iaload, 1) := by decide +kernel
theorem cd164_910 : tt_cd 164 910 = (10, .invokevirtual 115, 3) := by decide +kernel
theorem cd164_913 : tt_cd 164 913 = (1, .aload_n 2, 1) := by decide +kernel
theorem cd164_914 : tt_cd 164 914 = (1, .aload_n 0, 1) := by decide +kernel
theorem cd164_915 : tt_cd 164 915 = (1, .iload_n 3, 1) := by decide +kernel
theorem cd164_916 : tt_cd 164 916 = (2, .iconst 1, 1) := by decide +kernel
theorem cd164_917 : tt_cd 164 917 = (2, .iadd, 1) := by decide +kernel
theorem cd164_918 : tt_cd 164 918 = (3, .iaload, 1) := by decide +kernel
theorem cd164_919 : tt_cd 164 919 = (10, .invokevirtual 118, 3) := by decide +kernel
theorem cd164_922 : tt_cd 164 922 = (5, .if_icmp .eq 28, 3) := by decide +kernel
theorem cd164_927 : tt_cd 164 927 = (1, .aload_n 1, 1) := by decide +kernel
theorem cd164_928 : tt_cd 164 928 = (1, .aload_n 0, 1) := by decide +kernel
theorem cd164_929 : tt_cd 164 929 = (1, .iload_n 3, 1) := by decide +kernel
theorem cd164_930 : tt_cd 164 930 = (2, .iconst 1, 1) := by decide +kernel
theorem cd164_931 : tt_cd 164 931 = (2, .iadd, 1) := by decide +kernel
theorem cd164_932 : tt_cd 164 932 = (3, .iaload, 1) := by decide +kernel
theorem cd164_933 : tt_cd 164 933 = (10, .invokevirtual 119, 3) := by decide +kernel
theorem cd164_936 : tt_cd 164 936 = (1, .aload_n 2, 1) := by decide +kernel
theorem cd164_937 : tt_cd 164 937 = (1, .aload_n 0, 1) := by decide +kernel
theorem cd164_938 : tt_cd 164 938 = (1, .iload_n 3, 1) := by decide +kernel
theorem cd164_939 : tt_cd 164 939 = (2, .iconst 1, 1) := by decide +kernel
theorem cd164_940 : tt_cd 164 940 = (2, .iadd, 1) := by decide +kernel
theorem cd164_941 : tt_cd 164 941 = (3, .iaload, 1) := by decide +kernel
theorem cd164_942 : tt_cd 164 942 = (10, .invokevirtual 122, 3) := by decide +kernel
theorem cd164_945 : tt_cd 164 945 = (5, .if_icmp .eq 5, 3) := by decide +kernel
theorem cd164_950 : tt_cd 164 950 = (1, .iinc 3 6, 3) := by decide +kernel
theorem cd164_953 : tt_cd 164 953 = (5, .goto (-935), 3) := by decide +kernel
theorem cd164_956 : tt_cd 164 956 = (2, .iconst 1, 1) := by decide +kernel
theorem mL164 : tt_mL 164 = 4 := by decide +kernel
theorem ml164_13 : tt_ml 164 13 = (3, 55, 5) := by decide +kernel
theorem ml164_17 : tt_ml 164 17 = (3, 95, 5) := by decide +kernel
theorem ml164_18 : tt_ml 164 18 = (3, 56, 1) := by decide +kernel
theorem ml164_22 : tt_ml 164 22 = (3, 97, 1) := by decide +kernel
theorem ml164_23 : tt_ml 164 23 = (3, 57, 2) := by decide +kernel
theorem ml164_27 : tt_ml 164 27 = (3, 99, 2) := by decide +kernel
theorem ml164_28 : tt_ml 164 28 = (3, 58, 0) := by decide +kernel
theorem ml164_32 : tt_ml 164 32 = (3, 109, 0) := by decide +kernel
theorem ml164_33 : tt_ml 164 33 = (3, 59, 1) := by decide +kernel
theorem ml164_36 : tt_ml 164 36 = (3, 151, 1) := by decide +kernel
theorem ml164_37 : tt_ml 164 37 = (3, 60, 3) := by decide +kernel
theorem ml164_41 : tt_ml 164 41 = (3, 121, 3) := by decide +kernel
theorem ml164_42 : tt_ml 164 42 = (3, 62, 2) := by decide +kernel
theorem ml164_45 : tt_ml 164 45 = (3, 123, 2) := by decide +kernel
theorem ml164_46 : tt_ml 164 46 = (3, 63, 2) := by decide +kernel
theorem ml164_49 : tt_ml 164 49 = (3, 135, 2) := by decide +kernel
theorem ml164_50 : tt_ml 164 50 = (3, 66, 2) := by decide +kernel
theorem ml164_53 : tt_ml 164 53 = (3, 137, 2) := by decide +kernel
theorem ml164_54 : tt_ml 164 54 = (3, 68, 3) := by decide +kernel
theorem ml164_57 : tt_ml 164 57 = (3, 138, 3) := by decide +kernel
theorem ml164_58 : tt_ml 164 58 = (3, 69, 2) := by decide +kernel
theorem ml164_61 : tt_ml 164 61 = (3, 139, 2) := by decide +kernel
theorem ml164_62 : tt_ml 164 62 = (3, 70, 0) := by decide +kernel
theorem ml164_65 : tt_ml 164 65 = (3, 140, 0) := by decide +kernel
theorem ml164_66 : tt_ml 164 66 = (3, 71, 0) := by decide +kernel
theorem ml164_69 : tt_ml 164 69 = (3, 141, 0) := by decide +kernel
theorem ml164_70 : tt_ml 164 70 = (3, 72, 4) := by decide +kernel
theorem ml164_74 : tt_ml 164 74 = (3, 142, 4) := by decide +kernel
theorem ml164_75 : tt_ml 164 75 = (3, 82, 2) := by decide +kernel
theorem ml164_78 : tt_ml 164 78 = (3, 150, 2) := by decide +kernel
theorem ml164_79 : tt_ml 164 79 = (3, 83, 1) := by decide +kernel
theorem ml164_82 : tt_ml 164 82 = (3, 152, 1) := by decide +kernel
theorem ml164_83 : tt_ml 164 83 = (3, 84, 1) := by decide +kernel
theorem ml164_86 : tt_ml 164 86 = (3, 153, 1) := by decide +kernel
theorem ml164_87 : tt_ml 164 87 = (3, 85, 2) := by decide +kernel
theorem ml164_90 : tt_ml 164 90 = (3, 154, 2) := by decide +kernel
theorem ml164_91 : tt_ml 164 91 = (3, 86, 1) := by decide +kernel
theorem ml164_94 : tt_ml 164 94 = (3, 155, 1) := by decide +kernel
theorem ml164_95 : tt_ml 164 95 = (3, 87, 2) := by decide +kernel
theorem ml164_98 : tt_ml 164 98 = (3, 156, 2) := by decide +kernel
theorem ml164_99 : tt_ml 164 99 = (3, 88, 2) := by decide +kernel
theorem ml164_102 : tt_ml 164 102 = (3, 157, 2) := by decide +kernel
theorem ml164_103 : tt_ml 164 103 = (3, 90, 1) := by decide +kernel
theorem ml164_106 : tt_ml 164 106 = (3, 159, 1) := by decide +kernel
theorem ml164_107 : tt_ml 164 107 = (3, 91, 2) := by decide +kernel
theorem ml164_110 : tt_ml 164 110 = (3, 160, 2) := by decide +kernel
theorem ml164_111 : tt_ml 164 111 = (3, 92, 3) := by decide +kernel
theorem ml164_114 : tt_ml 164 114 = (3, 161, 3) := by decide +kernel
theorem ml164_115 : tt_ml 164 115 = (3, 93, 1) := by decide +kernel
theorem ml164_118 : tt_ml 164 118 = (3, 162, 1) := by decide +kernel
theorem ml164_119 : tt_ml 164 119 = (3, 94, 1) := by decide +kernel
theorem ml164_122 : tt_ml 164 122 = (3, 163, 1) := by decide +kernel
theorem mL55 : tt_mL 55 = 6 := by decide +kernel
theorem mL95 : tt_mL 95 = 6 := by decide +kernel
theorem mL56 : tt_mL 56 = 2 := by decide +kernel
theorem mL97 : tt_mL 97 = 2 := by decide +kernel
theorem mL57 : tt_mL 57 = 3 := by decide +kernel
theorem mL99 : tt_mL 99 = 3 := by decide +kernel
theorem mL58 : tt_mL 58 = 2 := by decide +kernel
theorem mL109 : tt_mL 109 = 2 := by decide +kernel
theorem mL59 : tt_mL 59 = 3 := by decide +kernel
theorem mL151 : tt_mL 151 = 3 := by decide +kernel
theorem mL60 : tt_mL 60 = 5 := by decide +kernel
theorem mL121 : tt_mL 121 = 4 := by decide +kernel
theorem mL62 : tt_mL 62 = 4 := by decide +kernel
theorem mL123 : tt_mL 123 = 3 := by decide +kernel
theorem mL63 : tt_mL 63 = 6 := by decide +kernel
theorem mL135 : tt_mL 135 = 5 := by decide +kernel
theorem mL66 : tt_mL 66 = 4 := by decide +kernel
theorem mL137 : tt_mL 137 = 3 := by decide +kernel
theorem mL68 : tt_mL 68 = 6 := by decide +kernel
theorem mL138 : tt_mL 138 = 5 := by decide +kernel
theorem mL69 : tt_mL 69 = 4 := by decide +kernel
theorem mL139 : tt_mL 139 = 3 := by decide +kernel
theorem mL70 : tt_mL 70 = 1 := by decide +kernel
theorem mL140 : tt_mL 140 = 1 := by decide +kernel
theorem mL71 : tt_mL 71 = 2 := by decide +kernel
theorem mL141 : tt_mL 141 = 2 := by decide +kernel
theorem mL72 : tt_mL 72 = 8 := by decide +kernel
theorem mL142 : tt_mL 142 = 7 := by decide +kernel
theorem mL82 : tt_mL 82 = 5 := by decide +kernel
theorem mL150 : tt_mL 150 = 3 := by decide +kernel
theorem mL83 : tt_mL 83 = 2 := by decide +kernel
theorem mL152 : tt_mL 152 = 2 := by decide +kernel
theorem mL84 : tt_mL 84 = 2 := by decide +kernel
theorem mL153 : tt_mL 153 = 2 := by decide +kernel
theorem mL85 : tt_mL 85 = 3 := by decide +kernel
theorem mL154 : tt_mL 154 = 3 := by decide +kernel
theorem mL86 : tt_mL 86 = 4 := by decide +kernel
theorem mL155 : tt_mL 155 = 4 := by decide +kernel
theorem mL87 : tt_mL 87 = 5 := by decide +kernel
theorem mL156 : tt_mL 156 = 9 := by decide +kernel
theorem mL88 : tt_mL 88 = 4 := by decide +kernel
theorem mL157 : tt_mL 157 = 3 := by decide +kernel
theorem mL90 : tt_mL 90 = 4 := by decide +kernel
theorem mL159 : tt_mL 159 = 5 := by decide +kernel
theorem mL91 : tt_mL 91 = 4 := by decide +kernel
theorem mL160 : tt_mL 160 = 3 := by decide +kernel
theorem mL92 : tt_mL 92 = 6 := by decide +kernel
theorem mL161 : tt_mL 161 = 7 := by decide +kernel
theorem mL93 : tt_mL 93 = 3 := by decide +kernel
theorem mL162 : tt_mL 162 = 2 := by decide +kernel
theorem mL94 : tt_mL 94 = 6 := by decide +kernel
theorem mL163 : tt_mL 163 = 3 := by decide +kernel
theorem lw_cs1 (x : mv_V) : mv_cs [x] ≤ 8 := by
  show (bif mv_isL x then 2 else 1) + 0 ≤ 8
  cases mv_isL x <;> decide
section LX
variable {p : Program} {l : Launch} {e : Env} {R : Room} {s : State} {m : MethodId} {args : Array Value} {below : List Frame} {meth : Method} {c : Code} {D : va_G} {tys : List (ClassId × FieldType)} {A : Nat → Prop} {tb : Nat → Nat} {Q : State → Prop} {b0 : Nat} {xs : Nat → Int32}
variable {pc pc' n cells slots : Nat} {ls S : List mv_V} {w : mv_T 10}

theorem lg_iconst {Ls : Nat} (C : lg_C p s m args meth c D tys A tb b0 Ls xs) {q : Int} {v : Nat} (hc : tt_cd 164 pc = (2, .iconst q, 1)) (hv : mv_sgn q = v) (h1 : cells ≤ R.cells) (h2 : slots ≤ R.slots) (kk : lg_G p l e R s m args below meth c D tys A tb Q (pc + 1) ls ((0, v, 0) :: S) n w cells slots) : lg_G p l e R s m args below meth c D tys A tb Q pc ls S n w cells slots := by
  subst hv
  exact lg_sk C hc rfl rfl h1 h2 kk
theorem lg_iadd {Ls : Nat} (C : lg_C p s m args meth c D tys A tb b0 Ls xs) {x y : Nat} (hc : tt_cd 164 pc = (2, .iadd, 1)) (h1 : cells ≤ R.cells) (h2 : slots ≤ R.slots) (kk : lg_G p l e R s m args below meth c D tys A tb Q (pc + 1) ls ((0, mo_add x y, 0) :: S) n w cells slots) : lg_G p l e R s m args below meth c D tys A tb Q pc ls ((0, y, 0) :: (0, x, 0) :: S) n w cells slots := lg_sk C hc rfl rfl h1 h2 kk
theorem lg_isub {Ls : Nat} (C : lg_C p s m args meth c D tys A tb b0 Ls xs) {x y : Nat} (hc : tt_cd 164 pc = (2, .isub, 1)) (h1 : cells ≤ R.cells) (h2 : slots ≤ R.slots) (kk : lg_G p l e R s m args below meth c D tys A tb Q (pc + 1) ls ((0, mo_sub x y, 0) :: S) n w cells slots) : lg_G p l e R s m args below meth c D tys A tb Q pc ls ((0, y, 0) :: (0, x, 0) :: S) n w cells slots := lg_sk C hc rfl rfl h1 h2 kk
theorem lg_bipush {Ls : Nat} (C : lg_C p s m args meth c D tys A tb b0 Ls xs) {q : Int} {v : Nat} (hc : tt_cd 164 pc = (4, .bipush q, 2)) (hq : (decide (-128 ≤ q) && decide (q ≤ 127)) = true) (hv : mv_sgn q = v) (h1 : cells ≤ R.cells) (h2 : slots ≤ R.slots) (kk : lg_G p l e R s m args below meth c D tys A tb Q (pc + 2) ls ((0, v, 0) :: S) n w cells slots) : lg_G p l e R s m args below meth c D tys A tb Q pc ls S n w cells slots := by
  subst hv
  refine lg_ck C hc rfl ?_ h1 h2 kk
  show (bif decide (-128 ≤ q) && decide (q ≤ 127) then some (2, (0, mv_sgn q, 0) :: S) else none) = _
  rw [hq]
  rfl
theorem lg_goto {Ls : Nat} (C : lg_C p s m args meth c D tys A tb b0 Ls xs) {off : Int} (hc : tt_cd 164 pc = (5, .goto off, 3)) (ht : mv_tgok pc off = true) (hp : mv_tg pc off = pc') (h1 : cells ≤ R.cells) (h2 : slots ≤ R.slots) (kk : lg_G p l e R s m args below meth c D tys A tb Q pc' ls S n w cells slots) : lg_G p l e R s m args below meth c D tys A tb Q pc ls S n w cells slots := by
  refine lg_bk C hc rfl rfl ?_ h1 h2 kk
  show (bif mv_tgok pc off then some (mv_tg pc off, S) else none) = _
  rw [ht, hp]
  rfl
theorem lg_eqt {Ls : Nat} (C : lg_C p s m args meth c D tys A tb b0 Ls xs) {off : Int} {x y : mv_V} (hc : tt_cd 164 pc = (5, .if_icmp .eq off, 3)) (ht : mv_tgok pc off = true) (hp : mv_tg pc off = pc') (he : mv_eq x y = some true) (h1 : cells ≤ R.cells) (h2 : slots ≤ R.slots) (kk : lg_G p l e R s m args below meth c D tys A tb Q pc' ls S n w cells slots) : lg_G p l e R s m args below meth c D tys A tb Q pc ls (y :: x :: S) n w cells slots := by
  refine lg_bk C hc rfl rfl ?_ h1 h2 kk
  show (bif mv_tgok pc off then (mv_eq x y).map (fun b => (bif b then mv_tg pc off else pc + 3, S)) else none) = _
  rw [ht, he, hp]
  rfl
theorem lg_gt {Ls : Nat} (C : lg_C p s m args meth c D tys A tb b0 Ls xs) {off : Int} {x y : mv_V} {b : Bool} (hc : tt_cd 164 pc = (5, .if_icmp .gt off, 3)) (ht : mv_tgok pc off = true) (he : mv_lt y x = some b) (hp : (bif b then mv_tg pc off else pc + 3) = pc') (h1 : cells ≤ R.cells) (h2 : slots ≤ R.slots) (kk : lg_G p l e R s m args below meth c D tys A tb Q pc' ls S n w cells slots) : lg_G p l e R s m args below meth c D tys A tb Q pc ls (y :: x :: S) n w cells slots := by
  refine lg_bk C hc rfl rfl ?_ h1 h2 kk
  show (bif mv_tgok pc off then (mv_lt y x).map (fun b => (bif b then mv_tg pc off else pc + 3, S)) else none) = _
  rw [ht, he, ← hp]
  rfl
theorem z_same_ok {r q : mv_R} (h : z_same r q = true) : ∃ x y, r.1 = [x] ∧ q.1 = [y] ∧ mv_eq x y = some true ∧ z_ok r = true ∧ z_ok q = true := by
  unfold z_same at h
  split at h
  · rename_i x y e1 e2
    simp only [Bool.and_eq_true, Nat.beq_eq] at h
    obtain ⟨⟨h1, h2⟩, h3, h4, h5⟩ := h
    refine ⟨x, y, e1, e2, ?_, h4, h5⟩
    have ex : mv_iv x = (mn_up x.2.1, mn_up x.2.1) := by
      unfold mv_iv
      rw [h1]
      rfl
    have ey : mv_iv y = (mn_up y.2.1, mn_up y.2.1) := by
      unfold mv_iv
      rw [h2]
      rfl
    exact mv_eq_of (by unfold mv_isI; rw [h1]; rfl) (by unfold mv_isI; rw [h2]; rfl) (by rw [ex]) (by rw [ey]) (by rw [ex, ey, h3])
  · cases h
theorem z_ok_ok {r : mv_R} (h : z_ok r = true) : r.2.2.2.1 ≤ 900 ∧ r.2.2.2.2.1 ≤ 1000000 ∧ r.2.2.2.2.2.1 ≤ 12 ∧ r.2.2.2.2.2.2 ≤ 500 := by
  unfold z_ok at h
  simp only [Bool.and_eq_true, Nat.ble_eq] at h
  exact ⟨h.1.1, h.1.2, h.2.1, h.2.2⟩
theorem z_1_ok {a b : mv_R} {kx km : Nat} {as : List mv_V} (h : z_1 a b kx km as = true) : mv_oks as = true ∧ mv_cs as + 1 ≤ tt_mL kx ∧ mv_cs as + 1 ≤ tt_mL km ∧ mv_rcv 3 (tt_mci kx) ((2, 0, 0) :: as) b.2.2.1 = true ∧ ∃ r q x y, tt_run pr_all 100000 kx 0 (mv_l0 0 ((2, 0, 0) :: as) 0) [] b.2.1 b.2.2.1 = some r ∧ mv_rcv 3 (tt_mci km) ((2, a.2.1, 0) :: as) r.2.2.1 = true ∧ tt_run pr_all 100000 km 0 (mv_l0 0 ((2, a.2.1, 0) :: as) 0) [] r.2.1 r.2.2.1 = some q ∧ r.1 = [x] ∧ q.1 = [y] ∧ mv_eq x y = some true ∧ z_ok r = true ∧ z_ok q = true := by
  unfold z_1 at h
  simp only [Bool.and_eq_true, Nat.ble_eq] at h
  obtain ⟨⟨⟨h1, h2, h3⟩, h4⟩, h5⟩ := h
  refine ⟨h1, h2, h3, h4, ?_⟩
  split at h5
  · rename_i r hr
    simp only [Bool.and_eq_true] at h5
    obtain ⟨h6, h7⟩ := h5
    split at h7
    · rename_i q hq
      obtain ⟨x, y, e1, e2, e3, e4, e5⟩ := z_same_ok h7
      exact ⟨r, q, x, y, hr, h6, hq, e1, e2, e3, e4, e5⟩
    · cases h7
  · cases h5
theorem lg_tail (C : lg_C p s m args meth c D tys A tb b0 6 xs) (hend : ∀ (ls : List mv_V) (n : Nat) (w : mv_T 10) (cells slots : Nat), cells ≤ R.cells → slots ≤ R.slots → lg_G p l e R s m args below meth c D tys A tb Q 957 ls [(0, 1, 0)] n w cells slots) (h1 : cells ≤ R.cells) (h2 : slots ≤ R.slots) {n1 : Nat} : lg_G p l e R s m args below meth c D tys A tb Q 950 [(6, 7, 0), (2, 0, 0), (2, n1, 0), (0, 0, 0)] [] n w cells slots := by
  refine lg_inc C (a := 0) (q := 6) cd164_950 rfl (by decide) (by rw [mL164]; rfl) rfl h1 h2 ?_
  simp only [List.set_cons_zero, List.set_cons_succ]
  refine lg_goto C (pc' := 18) cd164_953 (by decide) (by decide) h1 h2 ?_
  refine lg_ild C (j := 3) cd164_18 rfl rfl rfl h1 h2 ?_
  refine lg_ald C (j := 0) cd164_19 rfl rfl rfl h1 h2 ?_
  refine lg_len C cd164_20 ?_
  refine lg_bipush C (v := 6) cd164_21 (by decide) (by decide) h1 h2 ?_
  refine lg_isub C cd164_23 h1 h2 ?_
  refine lg_gt C (b := true) (pc' := 956) cd164_24 (by decide) (sy_lt_t (by decide) (by decide)) (by decide) h1 h2 ?_
  refine lg_iconst C (v := 1) cd164_956 (by decide) h1 h2 ?_
  exact hend _ _ _ _ _ h1 h2
theorem lw_feed (C : lg_C p s m args meth c D tys A tb b0 6 xs) (hend : ∀ (ls : List mv_V) (n : Nat) (w : mv_T 10) (cells slots : Nat), cells ≤ R.cells → slots ≤ R.slots → lg_G p l e R s m args below meth c D tys A tb Q 957 ls [(0, 1, 0)] n w cells slots) (hR : 13 ≤ R.frames ∧ 560 ≤ R.locals) (hc1 : cells + 1800 ≤ R.cells) (hc2 : slots + 2000000 ≤ R.slots) {a b : mv_R} {v1 v2 v3 v4 v5 : mv_V} (hv1 : ∀ (n : Nat) (ad : Nat → Nat), mv_r n ad tb v1 (.int (xs 1))) (hv2 : ∀ (n : Nat) (ad : Nat → Nat), mv_r n ad tb v2 (.int (xs 2))) (hv3 : ∀ (n : Nat) (ad : Nat → Nat), mv_r n ad tb v3 (.int (xs 3))) (hv4 : ∀ (n : Nat) (ad : Nat → Nat), mv_r n ad tb v4 (.int (xs 4))) (hv5 : ∀ (n : Nat) (ad : Nat → Nat), mv_r n ad tb v5 (.int (xs 5))) (hz : z_1 a b 55 95 [v1, v2, v3, v4, v5] = true) (hn1 : a.2.1 < 1000) : lg_G p l e R s m args below meth c D tys A tb Q 152 [(6, 7, 0), (2, 0, 0), (2, a.2.1, 0), (0, 0, 0)] [] b.2.1 b.2.2.1 cells slots := by
  obtain ⟨z1, z2, z3, z4, r, q, x, y, z5, z6, z7, z8, z9, z10, z11, z12⟩ := z_1_ok hz
  obtain ⟨o1, o2, o3, o4⟩ := z_ok_ok z11
  obtain ⟨o5, o6, o7, o8⟩ := z_ok_ok z12
  have htl := C.1.2.2.2.2.2.2.2.2.2
  refine lg_ald C (j := 1) cd164_152 rfl rfl rfl (by omega) (by omega) ?_
  refine lg_ald C (j := 0) cd164_153 rfl rfl rfl (by omega) (by omega) ?_
  refine lg_ild C (j := 3) cd164_154 rfl rfl rfl (by omega) (by omega) ?_
  refine lg_iconst C (v := 1) cd164_155 (by decide) (by omega) (by omega) ?_
  refine lg_iadd C cd164_156 (by omega) (by omega) ?_
  refine lg_scr C (j := 1) cd164_157 (by decide) (by decide) hv1 ?_
  refine lg_ald C (j := 0) cd164_158 rfl rfl rfl (by omega) (by omega) ?_
  refine lg_ild C (j := 3) cd164_159 rfl rfl rfl (by omega) (by omega) ?_
  refine lg_iconst C (v := 2) cd164_160 (by decide) (by omega) (by omega) ?_
  refine lg_iadd C cd164_161 (by omega) (by omega) ?_
  refine lg_scr C (j := 2) cd164_162 (by decide) (by decide) hv2 ?_
  refine lg_ald C (j := 0) cd164_163 rfl rfl rfl (by omega) (by omega) ?_
  refine lg_ild C (j := 3) cd164_164 rfl rfl rfl (by omega) (by omega) ?_
  refine lg_iconst C (v := 3) cd164_165 (by decide) (by omega) (by omega) ?_
  refine lg_iadd C cd164_166 (by omega) (by omega) ?_
  refine lg_scr C (j := 3) cd164_167 (by decide) (by decide) hv3 ?_
  refine lg_ald C (j := 0) cd164_168 rfl rfl rfl (by omega) (by omega) ?_
  refine lg_ild C (j := 3) cd164_169 rfl rfl rfl (by omega) (by omega) ?_
  refine lg_iconst C (v := 4) cd164_170 (by decide) (by omega) (by omega) ?_
  refine lg_iadd C cd164_171 (by omega) (by omega) ?_
  refine lg_scr C (j := 4) cd164_172 (by decide) (by decide) hv4 ?_
  refine lg_ald C (j := 0) cd164_173 rfl rfl rfl (by omega) (by omega) ?_
  refine lg_ild C (j := 3) cd164_174 rfl rfl rfl (by omega) (by omega) ?_
  refine lg_iconst C (v := 5) cd164_175 (by decide) (by omega) (by omega) ?_
  refine lg_iadd C cd164_176 (by omega) (by omega) ?_
  refine lg_scr C (j := 5) cd164_177 (by decide) (by decide) hv5 ?_
  refine lg_call C (r := r) (as := [(2, 0, 0), v1, v2, v3, v4, v5]) (S0 := []) cd164_178 (sy_calV (as := [(2, 0, 0), v1, v2, v3, v4, v5]) (S0 := []) ml164_13 rfl rfl) (by decide) (by decide) z4 (by decide) (tt_met htl (tt_mb 55 (by decide)).1 (sy_oks_cons rfl z1) (by rw [Nat.add_comm] at z2; exact z2) z5) ⟨by omega, by rw [mL55]; omega⟩ ⟨by omega, by omega⟩ ?_
  rw [z8]
  simp only [List.cons_append, List.nil_append]
  refine lg_ald C (j := 2) cd164_181 rfl rfl rfl (by omega) (by omega) ?_
  refine lg_ald C (j := 0) cd164_182 rfl rfl rfl (by omega) (by omega) ?_
  refine lg_ild C (j := 3) cd164_183 rfl rfl rfl (by omega) (by omega) ?_
  refine lg_iconst C (v := 1) cd164_184 (by decide) (by omega) (by omega) ?_
  refine lg_iadd C cd164_185 (by omega) (by omega) ?_
  refine lg_scr C (j := 1) cd164_186 (by decide) (by decide) hv1 ?_
  refine lg_ald C (j := 0) cd164_187 rfl rfl rfl (by omega) (by omega) ?_
  refine lg_ild C (j := 3) cd164_188 rfl rfl rfl (by omega) (by omega) ?_
  refine lg_iconst C (v := 2) cd164_189 (by decide) (by omega) (by omega) ?_
  refine lg_iadd C cd164_190 (by omega) (by omega) ?_
  refine lg_scr C (j := 2) cd164_191 (by decide) (by decide) hv2 ?_
  refine lg_ald C (j := 0) cd164_192 rfl rfl rfl (by omega) (by omega) ?_
  refine lg_ild C (j := 3) cd164_193 rfl rfl rfl (by omega) (by omega) ?_
  refine lg_iconst C (v := 3) cd164_194 (by decide) (by omega) (by omega) ?_
  refine lg_iadd C cd164_195 (by omega) (by omega) ?_
  refine lg_scr C (j := 3) cd164_196 (by decide) (by decide) hv3 ?_
  refine lg_ald C (j := 0) cd164_197 rfl rfl rfl (by omega) (by omega) ?_
  refine lg_ild C (j := 3) cd164_198 rfl rfl rfl (by omega) (by omega) ?_
  refine lg_iconst C (v := 4) cd164_199 (by decide) (by omega) (by omega) ?_
  refine lg_iadd C cd164_200 (by omega) (by omega) ?_
  refine lg_scr C (j := 4) cd164_201 (by decide) (by decide) hv4 ?_
  refine lg_ald C (j := 0) cd164_202 rfl rfl rfl (by omega) (by omega) ?_
  refine lg_ild C (j := 3) cd164_203 rfl rfl rfl (by omega) (by omega) ?_
  refine lg_iconst C (v := 5) cd164_204 (by decide) (by omega) (by omega) ?_
  refine lg_iadd C cd164_205 (by omega) (by omega) ?_
  refine lg_scr C (j := 5) cd164_206 (by decide) (by decide) hv5 ?_
  refine lg_call C (r := q) (as := [(2, a.2.1, 0), v1, v2, v3, v4, v5]) (S0 := [x]) cd164_207 (sy_calV (as := [(2, a.2.1, 0), v1, v2, v3, v4, v5]) (S0 := [x]) ml164_17 rfl rfl) (by decide) (by decide) z6 (lw_cs1 x) (tt_met htl (tt_mb 95 (by decide)).1 (sy_oks_cons (sy_ok2 (by omega)) z1) (by rw [Nat.add_comm] at z3; exact z3) z7) ⟨by omega, by rw [mL95]; omega⟩ ⟨by omega, by omega⟩ ?_
  rw [z9]
  simp only [List.cons_append, List.nil_append]
  refine lg_eqt C (pc' := 950) cd164_210 (by decide) (by decide) z10 (by omega) (by omega) ?_
  exact lg_tail C hend (by omega) (by omega)
theorem lw_cut (C : lg_C p s m args meth c D tys A tb b0 6 xs) (hend : ∀ (ls : List mv_V) (n : Nat) (w : mv_T 10) (cells slots : Nat), cells ≤ R.cells → slots ≤ R.slots → lg_G p l e R s m args below meth c D tys A tb Q 957 ls [(0, 1, 0)] n w cells slots) (hR : 13 ≤ R.frames ∧ 560 ≤ R.locals) (hc1 : cells + 1800 ≤ R.cells) (hc2 : slots + 2000000 ≤ R.slots) {a b : mv_R} {v1 : mv_V} (hv1 : ∀ (n : Nat) (ad : Nat → Nat), mv_r n ad tb v1 (.int (xs 1))) (hz : z_1 a b 56 97 [v1] = true) (hn1 : a.2.1 < 1000) : lg_G p l e R s m args below meth c D tys A tb Q 215 [(6, 7, 0), (2, 0, 0), (2, a.2.1, 0), (0, 0, 0)] [] b.2.1 b.2.2.1 cells slots := by
  obtain ⟨z1, z2, z3, z4, r, q, x, y, z5, z6, z7, z8, z9, z10, z11, z12⟩ := z_1_ok hz
  obtain ⟨o1, o2, o3, o4⟩ := z_ok_ok z11
  obtain ⟨o5, o6, o7, o8⟩ := z_ok_ok z12
  have htl := C.1.2.2.2.2.2.2.2.2.2
  refine lg_ald C (j := 1) cd164_215 rfl rfl rfl (by omega) (by omega) ?_
  refine lg_ald C (j := 0) cd164_216 rfl rfl rfl (by omega) (by omega) ?_
  refine lg_ild C (j := 3) cd164_217 rfl rfl rfl (by omega) (by omega) ?_
  refine lg_iconst C (v := 1) cd164_218 (by decide) (by omega) (by omega) ?_
  refine lg_iadd C cd164_219 (by omega) (by omega) ?_
  refine lg_scr C (j := 1) cd164_220 (by decide) (by decide) hv1 ?_
  refine lg_call C (r := r) (as := [(2, 0, 0), v1]) (S0 := []) cd164_221 (sy_calV (as := [(2, 0, 0), v1]) (S0 := []) ml164_18 rfl rfl) (by decide) (by decide) z4 (by decide) (tt_met htl (tt_mb 56 (by decide)).1 (sy_oks_cons rfl z1) (by rw [Nat.add_comm] at z2; exact z2) z5) ⟨by omega, by rw [mL56]; omega⟩ ⟨by omega, by omega⟩ ?_
  rw [z8]
  simp only [List.cons_append, List.nil_append]
  refine lg_ald C (j := 2) cd164_224 rfl rfl rfl (by omega) (by omega) ?_
  refine lg_ald C (j := 0) cd164_225 rfl rfl rfl (by omega) (by omega) ?_
  refine lg_ild C (j := 3) cd164_226 rfl rfl rfl (by omega) (by omega) ?_
  refine lg_iconst C (v := 1) cd164_227 (by decide) (by omega) (by omega) ?_
  refine lg_iadd C cd164_228 (by omega) (by omega) ?_
  refine lg_scr C (j := 1) cd164_229 (by decide) (by decide) hv1 ?_
  refine lg_call C (r := q) (as := [(2, a.2.1, 0), v1]) (S0 := [x]) cd164_230 (sy_calV (as := [(2, a.2.1, 0), v1]) (S0 := [x]) ml164_22 rfl rfl) (by decide) (by decide) z6 (lw_cs1 x) (tt_met htl (tt_mb 97 (by decide)).1 (sy_oks_cons (sy_ok2 (by omega)) z1) (by rw [Nat.add_comm] at z3; exact z3) z7) ⟨by omega, by rw [mL97]; omega⟩ ⟨by omega, by omega⟩ ?_
  rw [z9]
  simp only [List.cons_append, List.nil_append]
  refine lg_eqt C (pc' := 950) cd164_233 (by decide) (by decide) z10 (by omega) (by omega) ?_
  exact lg_tail C hend (by omega) (by omega)
theorem lw_hash (C : lg_C p s m args meth c D tys A tb b0 6 xs) (hend : ∀ (ls : List mv_V) (n : Nat) (w : mv_T 10) (cells slots : Nat), cells ≤ R.cells → slots ≤ R.slots → lg_G p l e R s m args below meth c D tys A tb Q 957 ls [(0, 1, 0)] n w cells slots) (hR : 13 ≤ R.frames ∧ 560 ≤ R.locals) (hc1 : cells + 1800 ≤ R.cells) (hc2 : slots + 2000000 ≤ R.slots) {a b : mv_R} {v1 v2 : mv_V} (hv1 : ∀ (n : Nat) (ad : Nat → Nat), mv_r n ad tb v1 (.int (xs 1))) (hv2 : ∀ (n : Nat) (ad : Nat → Nat), mv_r n ad tb v2 (.int (xs 2))) (hz : z_1 a b 57 99 [v1, v2] = true) (hn1 : a.2.1 < 1000) : lg_G p l e R s m args below meth c D tys A tb Q 238 [(6, 7, 0), (2, 0, 0), (2, a.2.1, 0), (0, 0, 0)] [] b.2.1 b.2.2.1 cells slots := by
  obtain ⟨z1, z2, z3, z4, r, q, x, y, z5, z6, z7, z8, z9, z10, z11, z12⟩ := z_1_ok hz
  obtain ⟨o1, o2, o3, o4⟩ := z_ok_ok z11
  obtain ⟨o5, o6, o7, o8⟩ := z_ok_ok z12
  have htl := C.1.2.2.2.2.2.2.2.2.2
  refine lg_ald C (j := 1) cd164_238 rfl rfl rfl (by omega) (by omega) ?_
  refine lg_ald C (j := 0) cd164_239 rfl rfl rfl (by omega) (by omega) ?_
  refine lg_ild C (j := 3) cd164_240 rfl rfl rfl (by omega) (by omega) ?_
  refine lg_iconst C (v := 1) cd164_241 (by decide) (by omega) (by omega) ?_
  refine lg_iadd C cd164_242 (by omega) (by omega) ?_
  refine lg_scr C (j := 1) cd164_243 (by decide) (by decide) hv1 ?_
  refine lg_ald C (j := 0) cd164_244 rfl rfl rfl (by omega) (by omega) ?_
  refine lg_ild C (j := 3) cd164_245 rfl rfl rfl (by omega) (by omega) ?_
  refine lg_iconst C (v := 2) cd164_246 (by decide) (by omega) (by omega) ?_
  refine lg_iadd C cd164_247 (by omega) (by omega) ?_
  refine lg_scr C (j := 2) cd164_248 (by decide) (by decide) hv2 ?_
  refine lg_call C (r := r) (as := [(2, 0, 0), v1, v2]) (S0 := []) cd164_249 (sy_calV (as := [(2, 0, 0), v1, v2]) (S0 := []) ml164_23 rfl rfl) (by decide) (by decide) z4 (by decide) (tt_met htl (tt_mb 57 (by decide)).1 (sy_oks_cons rfl z1) (by rw [Nat.add_comm] at z2; exact z2) z5) ⟨by omega, by rw [mL57]; omega⟩ ⟨by omega, by omega⟩ ?_
  rw [z8]
  simp only [List.cons_append, List.nil_append]
  refine lg_ald C (j := 2) cd164_252 rfl rfl rfl (by omega) (by omega) ?_
  refine lg_ald C (j := 0) cd164_253 rfl rfl rfl (by omega) (by omega) ?_
  refine lg_ild C (j := 3) cd164_254 rfl rfl rfl (by omega) (by omega) ?_
  refine lg_iconst C (v := 1) cd164_255 (by decide) (by omega) (by omega) ?_
  refine lg_iadd C cd164_256 (by omega) (by omega) ?_
  refine lg_scr C (j := 1) cd164_257 (by decide) (by decide) hv1 ?_
  refine lg_ald C (j := 0) cd164_258 rfl rfl rfl (by omega) (by omega) ?_
  refine lg_ild C (j := 3) cd164_259 rfl rfl rfl (by omega) (by omega) ?_
  refine lg_iconst C (v := 2) cd164_260 (by decide) (by omega) (by omega) ?_
  refine lg_iadd C cd164_261 (by omega) (by omega) ?_
  refine lg_scr C (j := 2) cd164_262 (by decide) (by decide) hv2 ?_
  refine lg_call C (r := q) (as := [(2, a.2.1, 0), v1, v2]) (S0 := [x]) cd164_263 (sy_calV (as := [(2, a.2.1, 0), v1, v2]) (S0 := [x]) ml164_27 rfl rfl) (by decide) (by decide) z6 (lw_cs1 x) (tt_met htl (tt_mb 99 (by decide)).1 (sy_oks_cons (sy_ok2 (by omega)) z1) (by rw [Nat.add_comm] at z3; exact z3) z7) ⟨by omega, by rw [mL99]; omega⟩ ⟨by omega, by omega⟩ ?_
  rw [z9]
  simp only [List.cons_append, List.nil_append]
  refine lg_eqt C (pc' := 950) cd164_266 (by decide) (by decide) z10 (by omega) (by omega) ?_
  exact lg_tail C hend (by omega) (by omega)
theorem lw_seed (C : lg_C p s m args meth c D tys A tb b0 6 xs) (hend : ∀ (ls : List mv_V) (n : Nat) (w : mv_T 10) (cells slots : Nat), cells ≤ R.cells → slots ≤ R.slots → lg_G p l e R s m args below meth c D tys A tb Q 957 ls [(0, 1, 0)] n w cells slots) (hR : 13 ≤ R.frames ∧ 560 ≤ R.locals) (hc1 : cells + 1800 ≤ R.cells) (hc2 : slots + 2000000 ≤ R.slots) {a b : mv_R}  (hz : z_1 a b 58 109 [] = true) (hn1 : a.2.1 < 1000) : lg_G p l e R s m args below meth c D tys A tb Q 271 [(6, 7, 0), (2, 0, 0), (2, a.2.1, 0), (0, 0, 0)] [] b.2.1 b.2.2.1 cells slots := by
  obtain ⟨z1, z2, z3, z4, r, q, x, y, z5, z6, z7, z8, z9, z10, z11, z12⟩ := z_1_ok hz
  obtain ⟨o1, o2, o3, o4⟩ := z_ok_ok z11
  obtain ⟨o5, o6, o7, o8⟩ := z_ok_ok z12
  have htl := C.1.2.2.2.2.2.2.2.2.2
  refine lg_ald C (j := 1) cd164_271 rfl rfl rfl (by omega) (by omega) ?_
  refine lg_call C (r := r) (as := [(2, 0, 0)]) (S0 := []) cd164_272 (sy_calV (as := [(2, 0, 0)]) (S0 := []) ml164_28 rfl rfl) (by decide) (by decide) z4 (by decide) (tt_met htl (tt_mb 58 (by decide)).1 (sy_oks_cons rfl z1) (by rw [Nat.add_comm] at z2; exact z2) z5) ⟨by omega, by rw [mL58]; omega⟩ ⟨by omega, by omega⟩ ?_
  rw [z8]
  simp only [List.cons_append, List.nil_append]
  refine lg_ald C (j := 2) cd164_275 rfl rfl rfl (by omega) (by omega) ?_
  refine lg_call C (r := q) (as := [(2, a.2.1, 0)]) (S0 := [x]) cd164_276 (sy_calV (as := [(2, a.2.1, 0)]) (S0 := [x]) ml164_32 rfl rfl) (by decide) (by decide) z6 (lw_cs1 x) (tt_met htl (tt_mb 109 (by decide)).1 (sy_oks_cons (sy_ok2 (by omega)) z1) (by rw [Nat.add_comm] at z3; exact z3) z7) ⟨by omega, by rw [mL109]; omega⟩ ⟨by omega, by omega⟩ ?_
  rw [z9]
  simp only [List.cons_append, List.nil_append]
  refine lg_eqt C (pc' := 950) cd164_279 (by decide) (by decide) z10 (by omega) (by omega) ?_
  exact lg_tail C hend (by omega) (by omega)
theorem lw_gap (C : lg_C p s m args meth c D tys A tb b0 6 xs) (hend : ∀ (ls : List mv_V) (n : Nat) (w : mv_T 10) (cells slots : Nat), cells ≤ R.cells → slots ≤ R.slots → lg_G p l e R s m args below meth c D tys A tb Q 957 ls [(0, 1, 0)] n w cells slots) (hR : 13 ≤ R.frames ∧ 560 ≤ R.locals) (hc1 : cells + 1800 ≤ R.cells) (hc2 : slots + 2000000 ≤ R.slots) {a b : mv_R} {v1 : mv_V} (hv1 : ∀ (n : Nat) (ad : Nat → Nat), mv_r n ad tb v1 (.int (xs 1))) (hz : z_1 a b 59 151 [v1] = true) (hn1 : a.2.1 < 1000) : lg_G p l e R s m args below meth c D tys A tb Q 284 [(6, 7, 0), (2, 0, 0), (2, a.2.1, 0), (0, 0, 0)] [] b.2.1 b.2.2.1 cells slots := by
  obtain ⟨z1, z2, z3, z4, r, q, x, y, z5, z6, z7, z8, z9, z10, z11, z12⟩ := z_1_ok hz
  obtain ⟨o1, o2, o3, o4⟩ := z_ok_ok z11
  obtain ⟨o5, o6, o7, o8⟩ := z_ok_ok z12
  have htl := C.1.2.2.2.2.2.2.2.2.2
  refine lg_ald C (j := 1) cd164_284 rfl rfl rfl (by omega) (by omega) ?_
  refine lg_ald C (j := 0) cd164_285 rfl rfl rfl (by omega) (by omega) ?_
  refine lg_ild C (j := 3) cd164_286 rfl rfl rfl (by omega) (by omega) ?_
  refine lg_iconst C (v := 1) cd164_287 (by decide) (by omega) (by omega) ?_
  refine lg_iadd C cd164_288 (by omega) (by omega) ?_
  refine lg_scr C (j := 1) cd164_289 (by decide) (by decide) hv1 ?_
  refine lg_call C (r := r) (as := [(2, 0, 0), v1]) (S0 := []) cd164_290 (sy_calV (as := [(2, 0, 0), v1]) (S0 := []) ml164_33 rfl rfl) (by decide) (by decide) z4 (by decide) (tt_met htl (tt_mb 59 (by decide)).1 (sy_oks_cons rfl z1) (by rw [Nat.add_comm] at z2; exact z2) z5) ⟨by omega, by rw [mL59]; omega⟩ ⟨by omega, by omega⟩ ?_
  rw [z8]
  simp only [List.cons_append, List.nil_append]
  refine lg_ald C (j := 2) cd164_293 rfl rfl rfl (by omega) (by omega) ?_
  refine lg_ald C (j := 0) cd164_294 rfl rfl rfl (by omega) (by omega) ?_
  refine lg_ild C (j := 3) cd164_295 rfl rfl rfl (by omega) (by omega) ?_
  refine lg_iconst C (v := 1) cd164_296 (by decide) (by omega) (by omega) ?_
  refine lg_iadd C cd164_297 (by omega) (by omega) ?_
  refine lg_scr C (j := 1) cd164_298 (by decide) (by decide) hv1 ?_
  refine lg_call C (r := q) (as := [(2, a.2.1, 0), v1]) (S0 := [x]) cd164_299 (sy_calV (as := [(2, a.2.1, 0), v1]) (S0 := [x]) ml164_36 rfl rfl) (by decide) (by decide) z6 (lw_cs1 x) (tt_met htl (tt_mb 151 (by decide)).1 (sy_oks_cons (sy_ok2 (by omega)) z1) (by rw [Nat.add_comm] at z3; exact z3) z7) ⟨by omega, by rw [mL151]; omega⟩ ⟨by omega, by omega⟩ ?_
  rw [z9]
  simp only [List.cons_append, List.nil_append]
  refine lg_eqt C (pc' := 950) cd164_302 (by decide) (by decide) z10 (by omega) (by omega) ?_
  exact lg_tail C hend (by omega) (by omega)
theorem lw_key (C : lg_C p s m args meth c D tys A tb b0 6 xs) (hend : ∀ (ls : List mv_V) (n : Nat) (w : mv_T 10) (cells slots : Nat), cells ≤ R.cells → slots ≤ R.slots → lg_G p l e R s m args below meth c D tys A tb Q 957 ls [(0, 1, 0)] n w cells slots) (hR : 13 ≤ R.frames ∧ 560 ≤ R.locals) (hc1 : cells + 1800 ≤ R.cells) (hc2 : slots + 2000000 ≤ R.slots) {a b : mv_R} {v1 v2 v3 : mv_V} (hv1 : ∀ (n : Nat) (ad : Nat → Nat), mv_r n ad tb v1 (.int (xs 1))) (hv2 : ∀ (n : Nat) (ad : Nat → Nat), mv_r n ad tb v2 (.int (xs 2))) (hv3 : ∀ (n : Nat) (ad : Nat → Nat), mv_r n ad tb v3 (.int (xs 3))) (hz : z_1 a b 60 121 [v1, v2, v3] = true) (hn1 : a.2.1 < 1000) : lg_G p l e R s m args below meth c D tys A tb Q 307 [(6, 7, 0), (2, 0, 0), (2, a.2.1, 0), (0, 0, 0)] [] b.2.1 b.2.2.1 cells slots := by
  obtain ⟨z1, z2, z3, z4, r, q, x, y, z5, z6, z7, z8, z9, z10, z11, z12⟩ := z_1_ok hz
  obtain ⟨o1, o2, o3, o4⟩ := z_ok_ok z11
  obtain ⟨o5, o6, o7, o8⟩ := z_ok_ok z12
  have htl := C.1.2.2.2.2.2.2.2.2.2
  refine lg_ald C (j := 1) cd164_307 rfl rfl rfl (by omega) (by omega) ?_
  refine lg_ald C (j := 0) cd164_308 rfl rfl rfl (by omega) (by omega) ?_
  refine lg_ild C (j := 3) cd164_309 rfl rfl rfl (by omega) (by omega) ?_
  refine lg_iconst C (v := 1) cd164_310 (by decide) (by omega) (by omega) ?_
  refine lg_iadd C cd164_311 (by omega) (by omega) ?_
  refine lg_scr C (j := 1) cd164_312 (by decide) (by decide) hv1 ?_
  refine lg_ald C (j := 0) cd164_313 rfl rfl rfl (by omega) (by omega) ?_
  refine lg_ild C (j := 3) cd164_314 rfl rfl rfl (by omega) (by omega) ?_
  refine lg_iconst C (v := 2) cd164_315 (by decide) (by omega) (by omega) ?_
  refine lg_iadd C cd164_316 (by omega) (by omega) ?_
  refine lg_scr C (j := 2) cd164_317 (by decide) (by decide) hv2 ?_
  refine lg_ald C (j := 0) cd164_318 rfl rfl rfl (by omega) (by omega) ?_
  refine lg_ild C (j := 3) cd164_319 rfl rfl rfl (by omega) (by omega) ?_
  refine lg_iconst C (v := 3) cd164_320 (by decide) (by omega) (by omega) ?_
  refine lg_iadd C cd164_321 (by omega) (by omega) ?_
  refine lg_scr C (j := 3) cd164_322 (by decide) (by decide) hv3 ?_
  refine lg_call C (r := r) (as := [(2, 0, 0), v1, v2, v3]) (S0 := []) cd164_323 (sy_calV (as := [(2, 0, 0), v1, v2, v3]) (S0 := []) ml164_37 rfl rfl) (by decide) (by decide) z4 (by decide) (tt_met htl (tt_mb 60 (by decide)).1 (sy_oks_cons rfl z1) (by rw [Nat.add_comm] at z2; exact z2) z5) ⟨by omega, by rw [mL60]; omega⟩ ⟨by omega, by omega⟩ ?_
  rw [z8]
  simp only [List.cons_append, List.nil_append]
  refine lg_ald C (j := 2) cd164_326 rfl rfl rfl (by omega) (by omega) ?_
  refine lg_ald C (j := 0) cd164_327 rfl rfl rfl (by omega) (by omega) ?_
  refine lg_ild C (j := 3) cd164_328 rfl rfl rfl (by omega) (by omega) ?_
  refine lg_iconst C (v := 1) cd164_329 (by decide) (by omega) (by omega) ?_
  refine lg_iadd C cd164_330 (by omega) (by omega) ?_
  refine lg_scr C (j := 1) cd164_331 (by decide) (by decide) hv1 ?_
  refine lg_ald C (j := 0) cd164_332 rfl rfl rfl (by omega) (by omega) ?_
  refine lg_ild C (j := 3) cd164_333 rfl rfl rfl (by omega) (by omega) ?_
  refine lg_iconst C (v := 2) cd164_334 (by decide) (by omega) (by omega) ?_
  refine lg_iadd C cd164_335 (by omega) (by omega) ?_
  refine lg_scr C (j := 2) cd164_336 (by decide) (by decide) hv2 ?_
  refine lg_ald C (j := 0) cd164_337 rfl rfl rfl (by omega) (by omega) ?_
  refine lg_ild C (j := 3) cd164_338 rfl rfl rfl (by omega) (by omega) ?_
  refine lg_iconst C (v := 3) cd164_339 (by decide) (by omega) (by omega) ?_
  refine lg_iadd C cd164_340 (by omega) (by omega) ?_
  refine lg_scr C (j := 3) cd164_341 (by decide) (by decide) hv3 ?_
  refine lg_call C (r := q) (as := [(2, a.2.1, 0), v1, v2, v3]) (S0 := [x]) cd164_342 (sy_calV (as := [(2, a.2.1, 0), v1, v2, v3]) (S0 := [x]) ml164_41 rfl rfl) (by decide) (by decide) z6 (lw_cs1 x) (tt_met htl (tt_mb 121 (by decide)).1 (sy_oks_cons (sy_ok2 (by omega)) z1) (by rw [Nat.add_comm] at z3; exact z3) z7) ⟨by omega, by rw [mL121]; omega⟩ ⟨by omega, by omega⟩ ?_
  rw [z9]
  simp only [List.cons_append, List.nil_append]
  refine lg_eqt C (pc' := 950) cd164_345 (by decide) (by decide) z10 (by omega) (by omega) ?_
  exact lg_tail C hend (by omega) (by omega)
theorem lw_address (C : lg_C p s m args meth c D tys A tb b0 6 xs) (hend : ∀ (ls : List mv_V) (n : Nat) (w : mv_T 10) (cells slots : Nat), cells ≤ R.cells → slots ≤ R.slots → lg_G p l e R s m args below meth c D tys A tb Q 957 ls [(0, 1, 0)] n w cells slots) (hR : 13 ≤ R.frames ∧ 560 ≤ R.locals) (hc1 : cells + 1800 ≤ R.cells) (hc2 : slots + 2000000 ≤ R.slots) {a b : mv_R} {v1 v2 : mv_V} (hv1 : ∀ (n : Nat) (ad : Nat → Nat), mv_r n ad tb v1 (.int (xs 1))) (hv2 : ∀ (n : Nat) (ad : Nat → Nat), mv_r n ad tb v2 (.int (xs 2))) (hz : z_1 a b 62 123 [v1, v2] = true) (hn1 : a.2.1 < 1000) : lg_G p l e R s m args below meth c D tys A tb Q 350 [(6, 7, 0), (2, 0, 0), (2, a.2.1, 0), (0, 0, 0)] [] b.2.1 b.2.2.1 cells slots := by
  obtain ⟨z1, z2, z3, z4, r, q, x, y, z5, z6, z7, z8, z9, z10, z11, z12⟩ := z_1_ok hz
  obtain ⟨o1, o2, o3, o4⟩ := z_ok_ok z11
  obtain ⟨o5, o6, o7, o8⟩ := z_ok_ok z12
  have htl := C.1.2.2.2.2.2.2.2.2.2
  refine lg_ald C (j := 1) cd164_350 rfl rfl rfl (by omega) (by omega) ?_
  refine lg_ald C (j := 0) cd164_351 rfl rfl rfl (by omega) (by omega) ?_
  refine lg_ild C (j := 3) cd164_352 rfl rfl rfl (by omega) (by omega) ?_
  refine lg_iconst C (v := 1) cd164_353 (by decide) (by omega) (by omega) ?_
  refine lg_iadd C cd164_354 (by omega) (by omega) ?_
  refine lg_scr C (j := 1) cd164_355 (by decide) (by decide) hv1 ?_
  refine lg_ald C (j := 0) cd164_356 rfl rfl rfl (by omega) (by omega) ?_
  refine lg_ild C (j := 3) cd164_357 rfl rfl rfl (by omega) (by omega) ?_
  refine lg_iconst C (v := 2) cd164_358 (by decide) (by omega) (by omega) ?_
  refine lg_iadd C cd164_359 (by omega) (by omega) ?_
  refine lg_scr C (j := 2) cd164_360 (by decide) (by decide) hv2 ?_
  refine lg_call C (r := r) (as := [(2, 0, 0), v1, v2]) (S0 := []) cd164_361 (sy_calV (as := [(2, 0, 0), v1, v2]) (S0 := []) ml164_42 rfl rfl) (by decide) (by decide) z4 (by decide) (tt_met htl (tt_mb 62 (by decide)).1 (sy_oks_cons rfl z1) (by rw [Nat.add_comm] at z2; exact z2) z5) ⟨by omega, by rw [mL62]; omega⟩ ⟨by omega, by omega⟩ ?_
  rw [z8]
  simp only [List.cons_append, List.nil_append]
  refine lg_ald C (j := 2) cd164_364 rfl rfl rfl (by omega) (by omega) ?_
  refine lg_ald C (j := 0) cd164_365 rfl rfl rfl (by omega) (by omega) ?_
  refine lg_ild C (j := 3) cd164_366 rfl rfl rfl (by omega) (by omega) ?_
  refine lg_iconst C (v := 1) cd164_367 (by decide) (by omega) (by omega) ?_
  refine lg_iadd C cd164_368 (by omega) (by omega) ?_
  refine lg_scr C (j := 1) cd164_369 (by decide) (by decide) hv1 ?_
  refine lg_ald C (j := 0) cd164_370 rfl rfl rfl (by omega) (by omega) ?_
  refine lg_ild C (j := 3) cd164_371 rfl rfl rfl (by omega) (by omega) ?_
  refine lg_iconst C (v := 2) cd164_372 (by decide) (by omega) (by omega) ?_
  refine lg_iadd C cd164_373 (by omega) (by omega) ?_
  refine lg_scr C (j := 2) cd164_374 (by decide) (by decide) hv2 ?_
  refine lg_call C (r := q) (as := [(2, a.2.1, 0), v1, v2]) (S0 := [x]) cd164_375 (sy_calV (as := [(2, a.2.1, 0), v1, v2]) (S0 := [x]) ml164_45 rfl rfl) (by decide) (by decide) z6 (lw_cs1 x) (tt_met htl (tt_mb 123 (by decide)).1 (sy_oks_cons (sy_ok2 (by omega)) z1) (by rw [Nat.add_comm] at z3; exact z3) z7) ⟨by omega, by rw [mL123]; omega⟩ ⟨by omega, by omega⟩ ?_
  rw [z9]
  simp only [List.cons_append, List.nil_append]
  refine lg_eqt C (pc' := 950) cd164_378 (by decide) (by decide) z10 (by omega) (by omega) ?_
  exact lg_tail C hend (by omega) (by omega)
theorem lw_mine (C : lg_C p s m args meth c D tys A tb b0 6 xs) (hend : ∀ (ls : List mv_V) (n : Nat) (w : mv_T 10) (cells slots : Nat), cells ≤ R.cells → slots ≤ R.slots → lg_G p l e R s m args below meth c D tys A tb Q 957 ls [(0, 1, 0)] n w cells slots) (hR : 13 ≤ R.frames ∧ 560 ≤ R.locals) (hc1 : cells + 1800 ≤ R.cells) (hc2 : slots + 2000000 ≤ R.slots) {a b : mv_R} {v1 v2 : mv_V} (hv1 : ∀ (n : Nat) (ad : Nat → Nat), mv_r n ad tb v1 (.int (xs 1))) (hv2 : ∀ (n : Nat) (ad : Nat → Nat), mv_r n ad tb v2 (.int (xs 2))) (hz : z_1 a b 63 135 [v1, v2] = true) (hn1 : a.2.1 < 1000) : lg_G p l e R s m args below meth c D tys A tb Q 383 [(6, 7, 0), (2, 0, 0), (2, a.2.1, 0), (0, 0, 0)] [] b.2.1 b.2.2.1 cells slots := by
  obtain ⟨z1, z2, z3, z4, r, q, x, y, z5, z6, z7, z8, z9, z10, z11, z12⟩ := z_1_ok hz
  obtain ⟨o1, o2, o3, o4⟩ := z_ok_ok z11
  obtain ⟨o5, o6, o7, o8⟩ := z_ok_ok z12
  have htl := C.1.2.2.2.2.2.2.2.2.2
  refine lg_ald C (j := 1) cd164_383 rfl rfl rfl (by omega) (by omega) ?_
  refine lg_ald C (j := 0) cd164_384 rfl rfl rfl (by omega) (by omega) ?_
  refine lg_ild C (j := 3) cd164_385 rfl rfl rfl (by omega) (by omega) ?_
  refine lg_iconst C (v := 1) cd164_386 (by decide) (by omega) (by omega) ?_
  refine lg_iadd C cd164_387 (by omega) (by omega) ?_
  refine lg_scr C (j := 1) cd164_388 (by decide) (by decide) hv1 ?_
  refine lg_ald C (j := 0) cd164_389 rfl rfl rfl (by omega) (by omega) ?_
  refine lg_ild C (j := 3) cd164_390 rfl rfl rfl (by omega) (by omega) ?_
  refine lg_iconst C (v := 2) cd164_391 (by decide) (by omega) (by omega) ?_
  refine lg_iadd C cd164_392 (by omega) (by omega) ?_
  refine lg_scr C (j := 2) cd164_393 (by decide) (by decide) hv2 ?_
  refine lg_call C (r := r) (as := [(2, 0, 0), v1, v2]) (S0 := []) cd164_394 (sy_calV (as := [(2, 0, 0), v1, v2]) (S0 := []) ml164_46 rfl rfl) (by decide) (by decide) z4 (by decide) (tt_met htl (tt_mb 63 (by decide)).1 (sy_oks_cons rfl z1) (by rw [Nat.add_comm] at z2; exact z2) z5) ⟨by omega, by rw [mL63]; omega⟩ ⟨by omega, by omega⟩ ?_
  rw [z8]
  simp only [List.cons_append, List.nil_append]
  refine lg_ald C (j := 2) cd164_397 rfl rfl rfl (by omega) (by omega) ?_
  refine lg_ald C (j := 0) cd164_398 rfl rfl rfl (by omega) (by omega) ?_
  refine lg_ild C (j := 3) cd164_399 rfl rfl rfl (by omega) (by omega) ?_
  refine lg_iconst C (v := 1) cd164_400 (by decide) (by omega) (by omega) ?_
  refine lg_iadd C cd164_401 (by omega) (by omega) ?_
  refine lg_scr C (j := 1) cd164_402 (by decide) (by decide) hv1 ?_
  refine lg_ald C (j := 0) cd164_403 rfl rfl rfl (by omega) (by omega) ?_
  refine lg_ild C (j := 3) cd164_404 rfl rfl rfl (by omega) (by omega) ?_
  refine lg_iconst C (v := 2) cd164_405 (by decide) (by omega) (by omega) ?_
  refine lg_iadd C cd164_406 (by omega) (by omega) ?_
  refine lg_scr C (j := 2) cd164_407 (by decide) (by decide) hv2 ?_
  refine lg_call C (r := q) (as := [(2, a.2.1, 0), v1, v2]) (S0 := [x]) cd164_408 (sy_calV (as := [(2, a.2.1, 0), v1, v2]) (S0 := [x]) ml164_49 rfl rfl) (by decide) (by decide) z6 (lw_cs1 x) (tt_met htl (tt_mb 135 (by decide)).1 (sy_oks_cons (sy_ok2 (by omega)) z1) (by rw [Nat.add_comm] at z3; exact z3) z7) ⟨by omega, by rw [mL135]; omega⟩ ⟨by omega, by omega⟩ ?_
  rw [z9]
  simp only [List.cons_append, List.nil_append]
  refine lg_eqt C (pc' := 950) cd164_411 (by decide) (by decide) z10 (by omega) (by omega) ?_
  exact lg_tail C hend (by omega) (by omega)
theorem lw_block (C : lg_C p s m args meth c D tys A tb b0 6 xs) (hend : ∀ (ls : List mv_V) (n : Nat) (w : mv_T 10) (cells slots : Nat), cells ≤ R.cells → slots ≤ R.slots → lg_G p l e R s m args below meth c D tys A tb Q 957 ls [(0, 1, 0)] n w cells slots) (hR : 13 ≤ R.frames ∧ 560 ≤ R.locals) (hc1 : cells + 1800 ≤ R.cells) (hc2 : slots + 2000000 ≤ R.slots) {a b : mv_R} {v1 v2 : mv_V} (hv1 : ∀ (n : Nat) (ad : Nat → Nat), mv_r n ad tb v1 (.int (xs 1))) (hv2 : ∀ (n : Nat) (ad : Nat → Nat), mv_r n ad tb v2 (.int (xs 2))) (hz : z_1 a b 66 137 [v1, v2] = true) (hn1 : a.2.1 < 1000) : lg_G p l e R s m args below meth c D tys A tb Q 416 [(6, 7, 0), (2, 0, 0), (2, a.2.1, 0), (0, 0, 0)] [] b.2.1 b.2.2.1 cells slots := by
  obtain ⟨z1, z2, z3, z4, r, q, x, y, z5, z6, z7, z8, z9, z10, z11, z12⟩ := z_1_ok hz
  obtain ⟨o1, o2, o3, o4⟩ := z_ok_ok z11
  obtain ⟨o5, o6, o7, o8⟩ := z_ok_ok z12
  have htl := C.1.2.2.2.2.2.2.2.2.2
  refine lg_ald C (j := 1) cd164_416 rfl rfl rfl (by omega) (by omega) ?_
  refine lg_ald C (j := 0) cd164_417 rfl rfl rfl (by omega) (by omega) ?_
  refine lg_ild C (j := 3) cd164_418 rfl rfl rfl (by omega) (by omega) ?_
  refine lg_iconst C (v := 1) cd164_419 (by decide) (by omega) (by omega) ?_
  refine lg_iadd C cd164_420 (by omega) (by omega) ?_
  refine lg_scr C (j := 1) cd164_421 (by decide) (by decide) hv1 ?_
  refine lg_ald C (j := 0) cd164_422 rfl rfl rfl (by omega) (by omega) ?_
  refine lg_ild C (j := 3) cd164_423 rfl rfl rfl (by omega) (by omega) ?_
  refine lg_iconst C (v := 2) cd164_424 (by decide) (by omega) (by omega) ?_
  refine lg_iadd C cd164_425 (by omega) (by omega) ?_
  refine lg_scr C (j := 2) cd164_426 (by decide) (by decide) hv2 ?_
  refine lg_call C (r := r) (as := [(2, 0, 0), v1, v2]) (S0 := []) cd164_427 (sy_calV (as := [(2, 0, 0), v1, v2]) (S0 := []) ml164_50 rfl rfl) (by decide) (by decide) z4 (by decide) (tt_met htl (tt_mb 66 (by decide)).1 (sy_oks_cons rfl z1) (by rw [Nat.add_comm] at z2; exact z2) z5) ⟨by omega, by rw [mL66]; omega⟩ ⟨by omega, by omega⟩ ?_
  rw [z8]
  simp only [List.cons_append, List.nil_append]
  refine lg_ald C (j := 2) cd164_430 rfl rfl rfl (by omega) (by omega) ?_
  refine lg_ald C (j := 0) cd164_431 rfl rfl rfl (by omega) (by omega) ?_
  refine lg_ild C (j := 3) cd164_432 rfl rfl rfl (by omega) (by omega) ?_
  refine lg_iconst C (v := 1) cd164_433 (by decide) (by omega) (by omega) ?_
  refine lg_iadd C cd164_434 (by omega) (by omega) ?_
  refine lg_scr C (j := 1) cd164_435 (by decide) (by decide) hv1 ?_
  refine lg_ald C (j := 0) cd164_436 rfl rfl rfl (by omega) (by omega) ?_
  refine lg_ild C (j := 3) cd164_437 rfl rfl rfl (by omega) (by omega) ?_
  refine lg_iconst C (v := 2) cd164_438 (by decide) (by omega) (by omega) ?_
  refine lg_iadd C cd164_439 (by omega) (by omega) ?_
  refine lg_scr C (j := 2) cd164_440 (by decide) (by decide) hv2 ?_
  refine lg_call C (r := q) (as := [(2, a.2.1, 0), v1, v2]) (S0 := [x]) cd164_441 (sy_calV (as := [(2, a.2.1, 0), v1, v2]) (S0 := [x]) ml164_53 rfl rfl) (by decide) (by decide) z6 (lw_cs1 x) (tt_met htl (tt_mb 137 (by decide)).1 (sy_oks_cons (sy_ok2 (by omega)) z1) (by rw [Nat.add_comm] at z3; exact z3) z7) ⟨by omega, by rw [mL137]; omega⟩ ⟨by omega, by omega⟩ ?_
  rw [z9]
  simp only [List.cons_append, List.nil_append]
  refine lg_eqt C (pc' := 950) cd164_444 (by decide) (by decide) z10 (by omega) (by omega) ?_
  exact lg_tail C hend (by omega) (by omega)
theorem lw_payment (C : lg_C p s m args meth c D tys A tb b0 6 xs) (hend : ∀ (ls : List mv_V) (n : Nat) (w : mv_T 10) (cells slots : Nat), cells ≤ R.cells → slots ≤ R.slots → lg_G p l e R s m args below meth c D tys A tb Q 957 ls [(0, 1, 0)] n w cells slots) (hR : 13 ≤ R.frames ∧ 560 ≤ R.locals) (hc1 : cells + 1800 ≤ R.cells) (hc2 : slots + 2000000 ≤ R.slots) {a b : mv_R} {v1 v2 v3 : mv_V} (hv1 : ∀ (n : Nat) (ad : Nat → Nat), mv_r n ad tb v1 (.int (xs 1))) (hv2 : ∀ (n : Nat) (ad : Nat → Nat), mv_r n ad tb v2 (.int (xs 2))) (hv3 : ∀ (n : Nat) (ad : Nat → Nat), mv_r n ad tb v3 (.int (xs 3))) (hz : z_1 a b 68 138 [v1, v2, v3] = true) (hn1 : a.2.1 < 1000) : lg_G p l e R s m args below meth c D tys A tb Q 449 [(6, 7, 0), (2, 0, 0), (2, a.2.1, 0), (0, 0, 0)] [] b.2.1 b.2.2.1 cells slots := by
  obtain ⟨z1, z2, z3, z4, r, q, x, y, z5, z6, z7, z8, z9, z10, z11, z12⟩ := z_1_ok hz
  obtain ⟨o1, o2, o3, o4⟩ := z_ok_ok z11
  obtain ⟨o5, o6, o7, o8⟩ := z_ok_ok z12
  have htl := C.1.2.2.2.2.2.2.2.2.2
  refine lg_ald C (j := 1) cd164_449 rfl rfl rfl (by omega) (by omega) ?_
  refine lg_ald C (j := 0) cd164_450 rfl rfl rfl (by omega) (by omega) ?_
  refine lg_ild C (j := 3) cd164_451 rfl rfl rfl (by omega) (by omega) ?_
  refine lg_iconst C (v := 1) cd164_452 (by decide) (by omega) (by omega) ?_
  refine lg_iadd C cd164_453 (by omega) (by omega) ?_
  refine lg_scr C (j := 1) cd164_454 (by decide) (by decide) hv1 ?_
  refine lg_ald C (j := 0) cd164_455 rfl rfl rfl (by omega) (by omega) ?_
  refine lg_ild C (j := 3) cd164_456 rfl rfl rfl (by omega) (by omega) ?_
  refine lg_iconst C (v := 2) cd164_457 (by decide) (by omega) (by omega) ?_
  refine lg_iadd C cd164_458 (by omega) (by omega) ?_
  refine lg_scr C (j := 2) cd164_459 (by decide) (by decide) hv2 ?_
  refine lg_ald C (j := 0) cd164_460 rfl rfl rfl (by omega) (by omega) ?_
  refine lg_ild C (j := 3) cd164_461 rfl rfl rfl (by omega) (by omega) ?_
  refine lg_iconst C (v := 3) cd164_462 (by decide) (by omega) (by omega) ?_
  refine lg_iadd C cd164_463 (by omega) (by omega) ?_
  refine lg_scr C (j := 3) cd164_464 (by decide) (by decide) hv3 ?_
  refine lg_call C (r := r) (as := [(2, 0, 0), v1, v2, v3]) (S0 := []) cd164_465 (sy_calV (as := [(2, 0, 0), v1, v2, v3]) (S0 := []) ml164_54 rfl rfl) (by decide) (by decide) z4 (by decide) (tt_met htl (tt_mb 68 (by decide)).1 (sy_oks_cons rfl z1) (by rw [Nat.add_comm] at z2; exact z2) z5) ⟨by omega, by rw [mL68]; omega⟩ ⟨by omega, by omega⟩ ?_
  rw [z8]
  simp only [List.cons_append, List.nil_append]
  refine lg_ald C (j := 2) cd164_468 rfl rfl rfl (by omega) (by omega) ?_
  refine lg_ald C (j := 0) cd164_469 rfl rfl rfl (by omega) (by omega) ?_
  refine lg_ild C (j := 3) cd164_470 rfl rfl rfl (by omega) (by omega) ?_
  refine lg_iconst C (v := 1) cd164_471 (by decide) (by omega) (by omega) ?_
  refine lg_iadd C cd164_472 (by omega) (by omega) ?_
  refine lg_scr C (j := 1) cd164_473 (by decide) (by decide) hv1 ?_
  refine lg_ald C (j := 0) cd164_474 rfl rfl rfl (by omega) (by omega) ?_
  refine lg_ild C (j := 3) cd164_475 rfl rfl rfl (by omega) (by omega) ?_
  refine lg_iconst C (v := 2) cd164_476 (by decide) (by omega) (by omega) ?_
  refine lg_iadd C cd164_477 (by omega) (by omega) ?_
  refine lg_scr C (j := 2) cd164_478 (by decide) (by decide) hv2 ?_
  refine lg_ald C (j := 0) cd164_479 rfl rfl rfl (by omega) (by omega) ?_
  refine lg_ild C (j := 3) cd164_480 rfl rfl rfl (by omega) (by omega) ?_
  refine lg_iconst C (v := 3) cd164_481 (by decide) (by omega) (by omega) ?_
  refine lg_iadd C cd164_482 (by omega) (by omega) ?_
  refine lg_scr C (j := 3) cd164_483 (by decide) (by decide) hv3 ?_
  refine lg_call C (r := q) (as := [(2, a.2.1, 0), v1, v2, v3]) (S0 := [x]) cd164_484 (sy_calV (as := [(2, a.2.1, 0), v1, v2, v3]) (S0 := [x]) ml164_57 rfl rfl) (by decide) (by decide) z6 (lw_cs1 x) (tt_met htl (tt_mb 138 (by decide)).1 (sy_oks_cons (sy_ok2 (by omega)) z1) (by rw [Nat.add_comm] at z3; exact z3) z7) ⟨by omega, by rw [mL138]; omega⟩ ⟨by omega, by omega⟩ ?_
  rw [z9]
  simp only [List.cons_append, List.nil_append]
  refine lg_eqt C (pc' := 950) cd164_487 (by decide) (by decide) z10 (by omega) (by omega) ?_
  exact lg_tail C hend (by omega) (by omega)
theorem lw_filterByte (C : lg_C p s m args meth c D tys A tb b0 6 xs) (hend : ∀ (ls : List mv_V) (n : Nat) (w : mv_T 10) (cells slots : Nat), cells ≤ R.cells → slots ≤ R.slots → lg_G p l e R s m args below meth c D tys A tb Q 957 ls [(0, 1, 0)] n w cells slots) (hR : 13 ≤ R.frames ∧ 560 ≤ R.locals) (hc1 : cells + 1800 ≤ R.cells) (hc2 : slots + 2000000 ≤ R.slots) {a b : mv_R} {v1 v2 : mv_V} (hv1 : ∀ (n : Nat) (ad : Nat → Nat), mv_r n ad tb v1 (.int (xs 1))) (hv2 : ∀ (n : Nat) (ad : Nat → Nat), mv_r n ad tb v2 (.int (xs 2))) (hz : z_1 a b 69 139 [v1, v2] = true) (hn1 : a.2.1 < 1000) : lg_G p l e R s m args below meth c D tys A tb Q 492 [(6, 7, 0), (2, 0, 0), (2, a.2.1, 0), (0, 0, 0)] [] b.2.1 b.2.2.1 cells slots := by
  obtain ⟨z1, z2, z3, z4, r, q, x, y, z5, z6, z7, z8, z9, z10, z11, z12⟩ := z_1_ok hz
  obtain ⟨o1, o2, o3, o4⟩ := z_ok_ok z11
  obtain ⟨o5, o6, o7, o8⟩ := z_ok_ok z12
  have htl := C.1.2.2.2.2.2.2.2.2.2
  refine lg_ald C (j := 1) cd164_492 rfl rfl rfl (by omega) (by omega) ?_
  refine lg_ald C (j := 0) cd164_493 rfl rfl rfl (by omega) (by omega) ?_
  refine lg_ild C (j := 3) cd164_494 rfl rfl rfl (by omega) (by omega) ?_
  refine lg_iconst C (v := 1) cd164_495 (by decide) (by omega) (by omega) ?_
  refine lg_iadd C cd164_496 (by omega) (by omega) ?_
  refine lg_scr C (j := 1) cd164_497 (by decide) (by decide) hv1 ?_
  refine lg_ald C (j := 0) cd164_498 rfl rfl rfl (by omega) (by omega) ?_
  refine lg_ild C (j := 3) cd164_499 rfl rfl rfl (by omega) (by omega) ?_
  refine lg_iconst C (v := 2) cd164_500 (by decide) (by omega) (by omega) ?_
  refine lg_iadd C cd164_501 (by omega) (by omega) ?_
  refine lg_scr C (j := 2) cd164_502 (by decide) (by decide) hv2 ?_
  refine lg_call C (r := r) (as := [(2, 0, 0), v1, v2]) (S0 := []) cd164_503 (sy_calV (as := [(2, 0, 0), v1, v2]) (S0 := []) ml164_58 rfl rfl) (by decide) (by decide) z4 (by decide) (tt_met htl (tt_mb 69 (by decide)).1 (sy_oks_cons rfl z1) (by rw [Nat.add_comm] at z2; exact z2) z5) ⟨by omega, by rw [mL69]; omega⟩ ⟨by omega, by omega⟩ ?_
  rw [z8]
  simp only [List.cons_append, List.nil_append]
  refine lg_ald C (j := 2) cd164_506 rfl rfl rfl (by omega) (by omega) ?_
  refine lg_ald C (j := 0) cd164_507 rfl rfl rfl (by omega) (by omega) ?_
  refine lg_ild C (j := 3) cd164_508 rfl rfl rfl (by omega) (by omega) ?_
  refine lg_iconst C (v := 1) cd164_509 (by decide) (by omega) (by omega) ?_
  refine lg_iadd C cd164_510 (by omega) (by omega) ?_
  refine lg_scr C (j := 1) cd164_511 (by decide) (by decide) hv1 ?_
  refine lg_ald C (j := 0) cd164_512 rfl rfl rfl (by omega) (by omega) ?_
  refine lg_ild C (j := 3) cd164_513 rfl rfl rfl (by omega) (by omega) ?_
  refine lg_iconst C (v := 2) cd164_514 (by decide) (by omega) (by omega) ?_
  refine lg_iadd C cd164_515 (by omega) (by omega) ?_
  refine lg_scr C (j := 2) cd164_516 (by decide) (by decide) hv2 ?_
  refine lg_call C (r := q) (as := [(2, a.2.1, 0), v1, v2]) (S0 := [x]) cd164_517 (sy_calV (as := [(2, a.2.1, 0), v1, v2]) (S0 := [x]) ml164_61 rfl rfl) (by decide) (by decide) z6 (lw_cs1 x) (tt_met htl (tt_mb 139 (by decide)).1 (sy_oks_cons (sy_ok2 (by omega)) z1) (by rw [Nat.add_comm] at z3; exact z3) z7) ⟨by omega, by rw [mL139]; omega⟩ ⟨by omega, by omega⟩ ?_
  rw [z9]
  simp only [List.cons_append, List.nil_append]
  refine lg_eqt C (pc' := 950) cd164_520 (by decide) (by decide) z10 (by omega) (by omega) ?_
  exact lg_tail C hend (by omega) (by omega)
theorem lw_waiting (C : lg_C p s m args meth c D tys A tb b0 6 xs) (hend : ∀ (ls : List mv_V) (n : Nat) (w : mv_T 10) (cells slots : Nat), cells ≤ R.cells → slots ≤ R.slots → lg_G p l e R s m args below meth c D tys A tb Q 957 ls [(0, 1, 0)] n w cells slots) (hR : 13 ≤ R.frames ∧ 560 ≤ R.locals) (hc1 : cells + 1800 ≤ R.cells) (hc2 : slots + 2000000 ≤ R.slots) {a b : mv_R}  (hz : z_1 a b 70 140 [] = true) (hn1 : a.2.1 < 1000) : lg_G p l e R s m args below meth c D tys A tb Q 525 [(6, 7, 0), (2, 0, 0), (2, a.2.1, 0), (0, 0, 0)] [] b.2.1 b.2.2.1 cells slots := by
  obtain ⟨z1, z2, z3, z4, r, q, x, y, z5, z6, z7, z8, z9, z10, z11, z12⟩ := z_1_ok hz
  obtain ⟨o1, o2, o3, o4⟩ := z_ok_ok z11
  obtain ⟨o5, o6, o7, o8⟩ := z_ok_ok z12
  have htl := C.1.2.2.2.2.2.2.2.2.2
  refine lg_ald C (j := 1) cd164_525 rfl rfl rfl (by omega) (by omega) ?_
  refine lg_call C (r := r) (as := [(2, 0, 0)]) (S0 := []) cd164_526 (sy_calV (as := [(2, 0, 0)]) (S0 := []) ml164_62 rfl rfl) (by decide) (by decide) z4 (by decide) (tt_met htl (tt_mb 70 (by decide)).1 (sy_oks_cons rfl z1) (by rw [Nat.add_comm] at z2; exact z2) z5) ⟨by omega, by rw [mL70]; omega⟩ ⟨by omega, by omega⟩ ?_
  rw [z8]
  simp only [List.cons_append, List.nil_append]
  refine lg_ald C (j := 2) cd164_529 rfl rfl rfl (by omega) (by omega) ?_
  refine lg_call C (r := q) (as := [(2, a.2.1, 0)]) (S0 := [x]) cd164_530 (sy_calV (as := [(2, a.2.1, 0)]) (S0 := [x]) ml164_65 rfl rfl) (by decide) (by decide) z6 (lw_cs1 x) (tt_met htl (tt_mb 140 (by decide)).1 (sy_oks_cons (sy_ok2 (by omega)) z1) (by rw [Nat.add_comm] at z3; exact z3) z7) ⟨by omega, by rw [mL140]; omega⟩ ⟨by omega, by omega⟩ ?_
  rw [z9]
  simp only [List.cons_append, List.nil_append]
  refine lg_eqt C (pc' := 950) cd164_533 (by decide) (by decide) z10 (by omega) (by omega) ?_
  exact lg_tail C hend (by omega) (by omega)
theorem lw_forget (C : lg_C p s m args meth c D tys A tb b0 6 xs) (hend : ∀ (ls : List mv_V) (n : Nat) (w : mv_T 10) (cells slots : Nat), cells ≤ R.cells → slots ≤ R.slots → lg_G p l e R s m args below meth c D tys A tb Q 957 ls [(0, 1, 0)] n w cells slots) (hR : 13 ≤ R.frames ∧ 560 ≤ R.locals) (hc1 : cells + 1800 ≤ R.cells) (hc2 : slots + 2000000 ≤ R.slots) {a b : mv_R}  (hz : z_1 a b 71 141 [] = true) (hn1 : a.2.1 < 1000) : lg_G p l e R s m args below meth c D tys A tb Q 538 [(6, 7, 0), (2, 0, 0), (2, a.2.1, 0), (0, 0, 0)] [] b.2.1 b.2.2.1 cells slots := by
  obtain ⟨z1, z2, z3, z4, r, q, x, y, z5, z6, z7, z8, z9, z10, z11, z12⟩ := z_1_ok hz
  obtain ⟨o1, o2, o3, o4⟩ := z_ok_ok z11
  obtain ⟨o5, o6, o7, o8⟩ := z_ok_ok z12
  have htl := C.1.2.2.2.2.2.2.2.2.2
  refine lg_ald C (j := 1) cd164_538 rfl rfl rfl (by omega) (by omega) ?_
  refine lg_call C (r := r) (as := [(2, 0, 0)]) (S0 := []) cd164_539 (sy_calV (as := [(2, 0, 0)]) (S0 := []) ml164_66 rfl rfl) (by decide) (by decide) z4 (by decide) (tt_met htl (tt_mb 71 (by decide)).1 (sy_oks_cons rfl z1) (by rw [Nat.add_comm] at z2; exact z2) z5) ⟨by omega, by rw [mL71]; omega⟩ ⟨by omega, by omega⟩ ?_
  rw [z8]
  simp only [List.cons_append, List.nil_append]
  refine lg_ald C (j := 2) cd164_542 rfl rfl rfl (by omega) (by omega) ?_
  refine lg_call C (r := q) (as := [(2, a.2.1, 0)]) (S0 := [x]) cd164_543 (sy_calV (as := [(2, a.2.1, 0)]) (S0 := [x]) ml164_69 rfl rfl) (by decide) (by decide) z6 (lw_cs1 x) (tt_met htl (tt_mb 141 (by decide)).1 (sy_oks_cons (sy_ok2 (by omega)) z1) (by rw [Nat.add_comm] at z3; exact z3) z7) ⟨by omega, by rw [mL141]; omega⟩ ⟨by omega, by omega⟩ ?_
  rw [z9]
  simp only [List.cons_append, List.nil_append]
  refine lg_eqt C (pc' := 950) cd164_546 (by decide) (by decide) z10 (by omega) (by omega) ?_
  exact lg_tail C hend (by omega) (by omega)
theorem lw_give (C : lg_C p s m args meth c D tys A tb b0 6 xs) (hend : ∀ (ls : List mv_V) (n : Nat) (w : mv_T 10) (cells slots : Nat), cells ≤ R.cells → slots ≤ R.slots → lg_G p l e R s m args below meth c D tys A tb Q 957 ls [(0, 1, 0)] n w cells slots) (hR : 13 ≤ R.frames ∧ 560 ≤ R.locals) (hc1 : cells + 1800 ≤ R.cells) (hc2 : slots + 2000000 ≤ R.slots) {a b : mv_R} {v1 v2 v3 v4 : mv_V} (hv1 : ∀ (n : Nat) (ad : Nat → Nat), mv_r n ad tb v1 (.int (xs 1))) (hv2 : ∀ (n : Nat) (ad : Nat → Nat), mv_r n ad tb v2 (.int (xs 2))) (hv3 : ∀ (n : Nat) (ad : Nat → Nat), mv_r n ad tb v3 (.int (xs 3))) (hv4 : ∀ (n : Nat) (ad : Nat → Nat), mv_r n ad tb v4 (.int (xs 4))) (hz : z_1 a b 72 142 [v1, v2, v3, v4] = true) (hn1 : a.2.1 < 1000) : lg_G p l e R s m args below meth c D tys A tb Q 551 [(6, 7, 0), (2, 0, 0), (2, a.2.1, 0), (0, 0, 0)] [] b.2.1 b.2.2.1 cells slots := by
  obtain ⟨z1, z2, z3, z4, r, q, x, y, z5, z6, z7, z8, z9, z10, z11, z12⟩ := z_1_ok hz
  obtain ⟨o1, o2, o3, o4⟩ := z_ok_ok z11
  obtain ⟨o5, o6, o7, o8⟩ := z_ok_ok z12
  have htl := C.1.2.2.2.2.2.2.2.2.2
  refine lg_ald C (j := 1) cd164_551 rfl rfl rfl (by omega) (by omega) ?_
  refine lg_ald C (j := 0) cd164_552 rfl rfl rfl (by omega) (by omega) ?_
  refine lg_ild C (j := 3) cd164_553 rfl rfl rfl (by omega) (by omega) ?_
  refine lg_iconst C (v := 1) cd164_554 (by decide) (by omega) (by omega) ?_
  refine lg_iadd C cd164_555 (by omega) (by omega) ?_
  refine lg_scr C (j := 1) cd164_556 (by decide) (by decide) hv1 ?_
  refine lg_ald C (j := 0) cd164_557 rfl rfl rfl (by omega) (by omega) ?_
  refine lg_ild C (j := 3) cd164_558 rfl rfl rfl (by omega) (by omega) ?_
  refine lg_iconst C (v := 2) cd164_559 (by decide) (by omega) (by omega) ?_
  refine lg_iadd C cd164_560 (by omega) (by omega) ?_
  refine lg_scr C (j := 2) cd164_561 (by decide) (by decide) hv2 ?_
  refine lg_ald C (j := 0) cd164_562 rfl rfl rfl (by omega) (by omega) ?_
  refine lg_ild C (j := 3) cd164_563 rfl rfl rfl (by omega) (by omega) ?_
  refine lg_iconst C (v := 3) cd164_564 (by decide) (by omega) (by omega) ?_
  refine lg_iadd C cd164_565 (by omega) (by omega) ?_
  refine lg_scr C (j := 3) cd164_566 (by decide) (by decide) hv3 ?_
  refine lg_ald C (j := 0) cd164_567 rfl rfl rfl (by omega) (by omega) ?_
  refine lg_ild C (j := 3) cd164_568 rfl rfl rfl (by omega) (by omega) ?_
  refine lg_iconst C (v := 4) cd164_569 (by decide) (by omega) (by omega) ?_
  refine lg_iadd C cd164_570 (by omega) (by omega) ?_
  refine lg_scr C (j := 4) cd164_571 (by decide) (by decide) hv4 ?_
  refine lg_call C (r := r) (as := [(2, 0, 0), v1, v2, v3, v4]) (S0 := []) cd164_572 (sy_calV (as := [(2, 0, 0), v1, v2, v3, v4]) (S0 := []) ml164_70 rfl rfl) (by decide) (by decide) z4 (by decide) (tt_met htl (tt_mb 72 (by decide)).1 (sy_oks_cons rfl z1) (by rw [Nat.add_comm] at z2; exact z2) z5) ⟨by omega, by rw [mL72]; omega⟩ ⟨by omega, by omega⟩ ?_
  rw [z8]
  simp only [List.cons_append, List.nil_append]
  refine lg_ald C (j := 2) cd164_575 rfl rfl rfl (by omega) (by omega) ?_
  refine lg_ald C (j := 0) cd164_576 rfl rfl rfl (by omega) (by omega) ?_
  refine lg_ild C (j := 3) cd164_577 rfl rfl rfl (by omega) (by omega) ?_
  refine lg_iconst C (v := 1) cd164_578 (by decide) (by omega) (by omega) ?_
  refine lg_iadd C cd164_579 (by omega) (by omega) ?_
  refine lg_scr C (j := 1) cd164_580 (by decide) (by decide) hv1 ?_
  refine lg_ald C (j := 0) cd164_581 rfl rfl rfl (by omega) (by omega) ?_
  refine lg_ild C (j := 3) cd164_582 rfl rfl rfl (by omega) (by omega) ?_
  refine lg_iconst C (v := 2) cd164_583 (by decide) (by omega) (by omega) ?_
  refine lg_iadd C cd164_584 (by omega) (by omega) ?_
  refine lg_scr C (j := 2) cd164_585 (by decide) (by decide) hv2 ?_
  refine lg_ald C (j := 0) cd164_586 rfl rfl rfl (by omega) (by omega) ?_
  refine lg_ild C (j := 3) cd164_587 rfl rfl rfl (by omega) (by omega) ?_
  refine lg_iconst C (v := 3) cd164_588 (by decide) (by omega) (by omega) ?_
  refine lg_iadd C cd164_589 (by omega) (by omega) ?_
  refine lg_scr C (j := 3) cd164_590 (by decide) (by decide) hv3 ?_
  refine lg_ald C (j := 0) cd164_591 rfl rfl rfl (by omega) (by omega) ?_
  refine lg_ild C (j := 3) cd164_592 rfl rfl rfl (by omega) (by omega) ?_
  refine lg_iconst C (v := 4) cd164_593 (by decide) (by omega) (by omega) ?_
  refine lg_iadd C cd164_594 (by omega) (by omega) ?_
  refine lg_scr C (j := 4) cd164_595 (by decide) (by decide) hv4 ?_
  refine lg_call C (r := q) (as := [(2, a.2.1, 0), v1, v2, v3, v4]) (S0 := [x]) cd164_596 (sy_calV (as := [(2, a.2.1, 0), v1, v2, v3, v4]) (S0 := [x]) ml164_74 rfl rfl) (by decide) (by decide) z6 (lw_cs1 x) (tt_met htl (tt_mb 142 (by decide)).1 (sy_oks_cons (sy_ok2 (by omega)) z1) (by rw [Nat.add_comm] at z3; exact z3) z7) ⟨by omega, by rw [mL142]; omega⟩ ⟨by omega, by omega⟩ ?_
  rw [z9]
  simp only [List.cons_append, List.nil_append]
  refine lg_eqt C (pc' := 950) cd164_599 (by decide) (by decide) z10 (by omega) (by omega) ?_
  exact lg_tail C hend (by omega) (by omega)
theorem lw_header (C : lg_C p s m args meth c D tys A tb b0 6 xs) (hend : ∀ (ls : List mv_V) (n : Nat) (w : mv_T 10) (cells slots : Nat), cells ≤ R.cells → slots ≤ R.slots → lg_G p l e R s m args below meth c D tys A tb Q 957 ls [(0, 1, 0)] n w cells slots) (hR : 13 ≤ R.frames ∧ 560 ≤ R.locals) (hc1 : cells + 1800 ≤ R.cells) (hc2 : slots + 2000000 ≤ R.slots) {a b : mv_R} {v1 v2 : mv_V} (hv1 : ∀ (n : Nat) (ad : Nat → Nat), mv_r n ad tb v1 (.int (xs 1))) (hv2 : ∀ (n : Nat) (ad : Nat → Nat), mv_r n ad tb v2 (.int (xs 2))) (hz : z_1 a b 82 150 [v1, v2] = true) (hn1 : a.2.1 < 1000) : lg_G p l e R s m args below meth c D tys A tb Q 604 [(6, 7, 0), (2, 0, 0), (2, a.2.1, 0), (0, 0, 0)] [] b.2.1 b.2.2.1 cells slots := by
  obtain ⟨z1, z2, z3, z4, r, q, x, y, z5, z6, z7, z8, z9, z10, z11, z12⟩ := z_1_ok hz
  obtain ⟨o1, o2, o3, o4⟩ := z_ok_ok z11
  obtain ⟨o5, o6, o7, o8⟩ := z_ok_ok z12
  have htl := C.1.2.2.2.2.2.2.2.2.2
  refine lg_ald C (j := 1) cd164_604 rfl rfl rfl (by omega) (by omega) ?_
  refine lg_ald C (j := 0) cd164_605 rfl rfl rfl (by omega) (by omega) ?_
  refine lg_ild C (j := 3) cd164_606 rfl rfl rfl (by omega) (by omega) ?_
  refine lg_iconst C (v := 1) cd164_607 (by decide) (by omega) (by omega) ?_
  refine lg_iadd C cd164_608 (by omega) (by omega) ?_
  refine lg_scr C (j := 1) cd164_609 (by decide) (by decide) hv1 ?_
  refine lg_ald C (j := 0) cd164_610 rfl rfl rfl (by omega) (by omega) ?_
  refine lg_ild C (j := 3) cd164_611 rfl rfl rfl (by omega) (by omega) ?_
  refine lg_iconst C (v := 2) cd164_612 (by decide) (by omega) (by omega) ?_
  refine lg_iadd C cd164_613 (by omega) (by omega) ?_
  refine lg_scr C (j := 2) cd164_614 (by decide) (by decide) hv2 ?_
  refine lg_call C (r := r) (as := [(2, 0, 0), v1, v2]) (S0 := []) cd164_615 (sy_calV (as := [(2, 0, 0), v1, v2]) (S0 := []) ml164_75 rfl rfl) (by decide) (by decide) z4 (by decide) (tt_met htl (tt_mb 82 (by decide)).1 (sy_oks_cons rfl z1) (by rw [Nat.add_comm] at z2; exact z2) z5) ⟨by omega, by rw [mL82]; omega⟩ ⟨by omega, by omega⟩ ?_
  rw [z8]
  simp only [List.cons_append, List.nil_append]
  refine lg_ald C (j := 2) cd164_618 rfl rfl rfl (by omega) (by omega) ?_
  refine lg_ald C (j := 0) cd164_619 rfl rfl rfl (by omega) (by omega) ?_
  refine lg_ild C (j := 3) cd164_620 rfl rfl rfl (by omega) (by omega) ?_
  refine lg_iconst C (v := 1) cd164_621 (by decide) (by omega) (by omega) ?_
  refine lg_iadd C cd164_622 (by omega) (by omega) ?_
  refine lg_scr C (j := 1) cd164_623 (by decide) (by decide) hv1 ?_
  refine lg_ald C (j := 0) cd164_624 rfl rfl rfl (by omega) (by omega) ?_
  refine lg_ild C (j := 3) cd164_625 rfl rfl rfl (by omega) (by omega) ?_
  refine lg_iconst C (v := 2) cd164_626 (by decide) (by omega) (by omega) ?_
  refine lg_iadd C cd164_627 (by omega) (by omega) ?_
  refine lg_scr C (j := 2) cd164_628 (by decide) (by decide) hv2 ?_
  refine lg_call C (r := q) (as := [(2, a.2.1, 0), v1, v2]) (S0 := [x]) cd164_629 (sy_calV (as := [(2, a.2.1, 0), v1, v2]) (S0 := [x]) ml164_78 rfl rfl) (by decide) (by decide) z6 (lw_cs1 x) (tt_met htl (tt_mb 150 (by decide)).1 (sy_oks_cons (sy_ok2 (by omega)) z1) (by rw [Nat.add_comm] at z3; exact z3) z7) ⟨by omega, by rw [mL150]; omega⟩ ⟨by omega, by omega⟩ ?_
  rw [z9]
  simp only [List.cons_append, List.nil_append]
  refine lg_eqt C (pc' := 950) cd164_632 (by decide) (by decide) z10 (by omega) (by omega) ?_
  exact lg_tail C hend (by omega) (by omega)
theorem lw_chain (C : lg_C p s m args meth c D tys A tb b0 6 xs) (hend : ∀ (ls : List mv_V) (n : Nat) (w : mv_T 10) (cells slots : Nat), cells ≤ R.cells → slots ≤ R.slots → lg_G p l e R s m args below meth c D tys A tb Q 957 ls [(0, 1, 0)] n w cells slots) (hR : 13 ≤ R.frames ∧ 560 ≤ R.locals) (hc1 : cells + 1800 ≤ R.cells) (hc2 : slots + 2000000 ≤ R.slots) {a b : mv_R} {v1 : mv_V} (hv1 : ∀ (n : Nat) (ad : Nat → Nat), mv_r n ad tb v1 (.int (xs 1))) (hz : z_1 a b 83 152 [v1] = true) (hn1 : a.2.1 < 1000) : lg_G p l e R s m args below meth c D tys A tb Q 637 [(6, 7, 0), (2, 0, 0), (2, a.2.1, 0), (0, 0, 0)] [] b.2.1 b.2.2.1 cells slots := by
  obtain ⟨z1, z2, z3, z4, r, q, x, y, z5, z6, z7, z8, z9, z10, z11, z12⟩ := z_1_ok hz
  obtain ⟨o1, o2, o3, o4⟩ := z_ok_ok z11
  obtain ⟨o5, o6, o7, o8⟩ := z_ok_ok z12
  have htl := C.1.2.2.2.2.2.2.2.2.2
  refine lg_ald C (j := 1) cd164_637 rfl rfl rfl (by omega) (by omega) ?_
  refine lg_ald C (j := 0) cd164_638 rfl rfl rfl (by omega) (by omega) ?_
  refine lg_ild C (j := 3) cd164_639 rfl rfl rfl (by omega) (by omega) ?_
  refine lg_iconst C (v := 1) cd164_640 (by decide) (by omega) (by omega) ?_
  refine lg_iadd C cd164_641 (by omega) (by omega) ?_
  refine lg_scr C (j := 1) cd164_642 (by decide) (by decide) hv1 ?_
  refine lg_call C (r := r) (as := [(2, 0, 0), v1]) (S0 := []) cd164_643 (sy_calV (as := [(2, 0, 0), v1]) (S0 := []) ml164_79 rfl rfl) (by decide) (by decide) z4 (by decide) (tt_met htl (tt_mb 83 (by decide)).1 (sy_oks_cons rfl z1) (by rw [Nat.add_comm] at z2; exact z2) z5) ⟨by omega, by rw [mL83]; omega⟩ ⟨by omega, by omega⟩ ?_
  rw [z8]
  simp only [List.cons_append, List.nil_append]
  refine lg_ald C (j := 2) cd164_646 rfl rfl rfl (by omega) (by omega) ?_
  refine lg_ald C (j := 0) cd164_647 rfl rfl rfl (by omega) (by omega) ?_
  refine lg_ild C (j := 3) cd164_648 rfl rfl rfl (by omega) (by omega) ?_
  refine lg_iconst C (v := 1) cd164_649 (by decide) (by omega) (by omega) ?_
  refine lg_iadd C cd164_650 (by omega) (by omega) ?_
  refine lg_scr C (j := 1) cd164_651 (by decide) (by decide) hv1 ?_
  refine lg_call C (r := q) (as := [(2, a.2.1, 0), v1]) (S0 := [x]) cd164_652 (sy_calV (as := [(2, a.2.1, 0), v1]) (S0 := [x]) ml164_82 rfl rfl) (by decide) (by decide) z6 (lw_cs1 x) (tt_met htl (tt_mb 152 (by decide)).1 (sy_oks_cons (sy_ok2 (by omega)) z1) (by rw [Nat.add_comm] at z3; exact z3) z7) ⟨by omega, by rw [mL152]; omega⟩ ⟨by omega, by omega⟩ ?_
  rw [z9]
  simp only [List.cons_append, List.nil_append]
  refine lg_eqt C (pc' := 950) cd164_655 (by decide) (by decide) z10 (by omega) (by omega) ?_
  exact lg_tail C hend (by omega) (by omega)
theorem lw_last (C : lg_C p s m args meth c D tys A tb b0 6 xs) (hend : ∀ (ls : List mv_V) (n : Nat) (w : mv_T 10) (cells slots : Nat), cells ≤ R.cells → slots ≤ R.slots → lg_G p l e R s m args below meth c D tys A tb Q 957 ls [(0, 1, 0)] n w cells slots) (hR : 13 ≤ R.frames ∧ 560 ≤ R.locals) (hc1 : cells + 1800 ≤ R.cells) (hc2 : slots + 2000000 ≤ R.slots) {a b : mv_R} {v1 : mv_V} (hv1 : ∀ (n : Nat) (ad : Nat → Nat), mv_r n ad tb v1 (.int (xs 1))) (hz : z_1 a b 84 153 [v1] = true) (hn1 : a.2.1 < 1000) : lg_G p l e R s m args below meth c D tys A tb Q 660 [(6, 7, 0), (2, 0, 0), (2, a.2.1, 0), (0, 0, 0)] [] b.2.1 b.2.2.1 cells slots := by
  obtain ⟨z1, z2, z3, z4, r, q, x, y, z5, z6, z7, z8, z9, z10, z11, z12⟩ := z_1_ok hz
  obtain ⟨o1, o2, o3, o4⟩ := z_ok_ok z11
  obtain ⟨o5, o6, o7, o8⟩ := z_ok_ok z12
  have htl := C.1.2.2.2.2.2.2.2.2.2
  refine lg_ald C (j := 1) cd164_660 rfl rfl rfl (by omega) (by omega) ?_
  refine lg_ald C (j := 0) cd164_661 rfl rfl rfl (by omega) (by omega) ?_
  refine lg_ild C (j := 3) cd164_662 rfl rfl rfl (by omega) (by omega) ?_
  refine lg_iconst C (v := 1) cd164_663 (by decide) (by omega) (by omega) ?_
  refine lg_iadd C cd164_664 (by omega) (by omega) ?_
  refine lg_scr C (j := 1) cd164_665 (by decide) (by decide) hv1 ?_
  refine lg_call C (r := r) (as := [(2, 0, 0), v1]) (S0 := []) cd164_666 (sy_calV (as := [(2, 0, 0), v1]) (S0 := []) ml164_83 rfl rfl) (by decide) (by decide) z4 (by decide) (tt_met htl (tt_mb 84 (by decide)).1 (sy_oks_cons rfl z1) (by rw [Nat.add_comm] at z2; exact z2) z5) ⟨by omega, by rw [mL84]; omega⟩ ⟨by omega, by omega⟩ ?_
  rw [z8]
  simp only [List.cons_append, List.nil_append]
  refine lg_ald C (j := 2) cd164_669 rfl rfl rfl (by omega) (by omega) ?_
  refine lg_ald C (j := 0) cd164_670 rfl rfl rfl (by omega) (by omega) ?_
  refine lg_ild C (j := 3) cd164_671 rfl rfl rfl (by omega) (by omega) ?_
  refine lg_iconst C (v := 1) cd164_672 (by decide) (by omega) (by omega) ?_
  refine lg_iadd C cd164_673 (by omega) (by omega) ?_
  refine lg_scr C (j := 1) cd164_674 (by decide) (by decide) hv1 ?_
  refine lg_call C (r := q) (as := [(2, a.2.1, 0), v1]) (S0 := [x]) cd164_675 (sy_calV (as := [(2, a.2.1, 0), v1]) (S0 := [x]) ml164_86 rfl rfl) (by decide) (by decide) z6 (lw_cs1 x) (tt_met htl (tt_mb 153 (by decide)).1 (sy_oks_cons (sy_ok2 (by omega)) z1) (by rw [Nat.add_comm] at z3; exact z3) z7) ⟨by omega, by rw [mL153]; omega⟩ ⟨by omega, by omega⟩ ?_
  rw [z9]
  simp only [List.cons_append, List.nil_append]
  refine lg_eqt C (pc' := 950) cd164_678 (by decide) (by decide) z10 (by omega) (by omega) ?_
  exact lg_tail C hend (by omega) (by omega)
theorem lw_coin (C : lg_C p s m args meth c D tys A tb b0 6 xs) (hend : ∀ (ls : List mv_V) (n : Nat) (w : mv_T 10) (cells slots : Nat), cells ≤ R.cells → slots ≤ R.slots → lg_G p l e R s m args below meth c D tys A tb Q 957 ls [(0, 1, 0)] n w cells slots) (hR : 13 ≤ R.frames ∧ 560 ≤ R.locals) (hc1 : cells + 1800 ≤ R.cells) (hc2 : slots + 2000000 ≤ R.slots) {a b : mv_R} {v1 v2 : mv_V} (hv1 : ∀ (n : Nat) (ad : Nat → Nat), mv_r n ad tb v1 (.int (xs 1))) (hv2 : ∀ (n : Nat) (ad : Nat → Nat), mv_r n ad tb v2 (.int (xs 2))) (hz : z_1 a b 85 154 [v1, v2] = true) (hn1 : a.2.1 < 1000) : lg_G p l e R s m args below meth c D tys A tb Q 683 [(6, 7, 0), (2, 0, 0), (2, a.2.1, 0), (0, 0, 0)] [] b.2.1 b.2.2.1 cells slots := by
  obtain ⟨z1, z2, z3, z4, r, q, x, y, z5, z6, z7, z8, z9, z10, z11, z12⟩ := z_1_ok hz
  obtain ⟨o1, o2, o3, o4⟩ := z_ok_ok z11
  obtain ⟨o5, o6, o7, o8⟩ := z_ok_ok z12
  have htl := C.1.2.2.2.2.2.2.2.2.2
  refine lg_ald C (j := 1) cd164_683 rfl rfl rfl (by omega) (by omega) ?_
  refine lg_ald C (j := 0) cd164_684 rfl rfl rfl (by omega) (by omega) ?_
  refine lg_ild C (j := 3) cd164_685 rfl rfl rfl (by omega) (by omega) ?_
  refine lg_iconst C (v := 1) cd164_686 (by decide) (by omega) (by omega) ?_
  refine lg_iadd C cd164_687 (by omega) (by omega) ?_
  refine lg_scr C (j := 1) cd164_688 (by decide) (by decide) hv1 ?_
  refine lg_ald C (j := 0) cd164_689 rfl rfl rfl (by omega) (by omega) ?_
  refine lg_ild C (j := 3) cd164_690 rfl rfl rfl (by omega) (by omega) ?_
  refine lg_iconst C (v := 2) cd164_691 (by decide) (by omega) (by omega) ?_
  refine lg_iadd C cd164_692 (by omega) (by omega) ?_
  refine lg_scr C (j := 2) cd164_693 (by decide) (by decide) hv2 ?_
  refine lg_call C (r := r) (as := [(2, 0, 0), v1, v2]) (S0 := []) cd164_694 (sy_calV (as := [(2, 0, 0), v1, v2]) (S0 := []) ml164_87 rfl rfl) (by decide) (by decide) z4 (by decide) (tt_met htl (tt_mb 85 (by decide)).1 (sy_oks_cons rfl z1) (by rw [Nat.add_comm] at z2; exact z2) z5) ⟨by omega, by rw [mL85]; omega⟩ ⟨by omega, by omega⟩ ?_
  rw [z8]
  simp only [List.cons_append, List.nil_append]
  refine lg_ald C (j := 2) cd164_697 rfl rfl rfl (by omega) (by omega) ?_
  refine lg_ald C (j := 0) cd164_698 rfl rfl rfl (by omega) (by omega) ?_
  refine lg_ild C (j := 3) cd164_699 rfl rfl rfl (by omega) (by omega) ?_
  refine lg_iconst C (v := 1) cd164_700 (by decide) (by omega) (by omega) ?_
  refine lg_iadd C cd164_701 (by omega) (by omega) ?_
  refine lg_scr C (j := 1) cd164_702 (by decide) (by decide) hv1 ?_
  refine lg_ald C (j := 0) cd164_703 rfl rfl rfl (by omega) (by omega) ?_
  refine lg_ild C (j := 3) cd164_704 rfl rfl rfl (by omega) (by omega) ?_
  refine lg_iconst C (v := 2) cd164_705 (by decide) (by omega) (by omega) ?_
  refine lg_iadd C cd164_706 (by omega) (by omega) ?_
  refine lg_scr C (j := 2) cd164_707 (by decide) (by decide) hv2 ?_
  refine lg_call C (r := q) (as := [(2, a.2.1, 0), v1, v2]) (S0 := [x]) cd164_708 (sy_calV (as := [(2, a.2.1, 0), v1, v2]) (S0 := [x]) ml164_90 rfl rfl) (by decide) (by decide) z6 (lw_cs1 x) (tt_met htl (tt_mb 154 (by decide)).1 (sy_oks_cons (sy_ok2 (by omega)) z1) (by rw [Nat.add_comm] at z3; exact z3) z7) ⟨by omega, by rw [mL154]; omega⟩ ⟨by omega, by omega⟩ ?_
  rw [z9]
  simp only [List.cons_append, List.nil_append]
  refine lg_eqt C (pc' := 950) cd164_711 (by decide) (by decide) z10 (by omega) (by omega) ?_
  exact lg_tail C hend (by omega) (by omega)
theorem lw_sum (C : lg_C p s m args meth c D tys A tb b0 6 xs) (hend : ∀ (ls : List mv_V) (n : Nat) (w : mv_T 10) (cells slots : Nat), cells ≤ R.cells → slots ≤ R.slots → lg_G p l e R s m args below meth c D tys A tb Q 957 ls [(0, 1, 0)] n w cells slots) (hR : 13 ≤ R.frames ∧ 560 ≤ R.locals) (hc1 : cells + 1800 ≤ R.cells) (hc2 : slots + 2000000 ≤ R.slots) {a b : mv_R} {v1 : mv_V} (hv1 : ∀ (n : Nat) (ad : Nat → Nat), mv_r n ad tb v1 (.int (xs 1))) (hz : z_1 a b 86 155 [v1] = true) (hn1 : a.2.1 < 1000) : lg_G p l e R s m args below meth c D tys A tb Q 716 [(6, 7, 0), (2, 0, 0), (2, a.2.1, 0), (0, 0, 0)] [] b.2.1 b.2.2.1 cells slots := by
  obtain ⟨z1, z2, z3, z4, r, q, x, y, z5, z6, z7, z8, z9, z10, z11, z12⟩ := z_1_ok hz
  obtain ⟨o1, o2, o3, o4⟩ := z_ok_ok z11
  obtain ⟨o5, o6, o7, o8⟩ := z_ok_ok z12
  have htl := C.1.2.2.2.2.2.2.2.2.2
  refine lg_ald C (j := 1) cd164_716 rfl rfl rfl (by omega) (by omega) ?_
  refine lg_ald C (j := 0) cd164_717 rfl rfl rfl (by omega) (by omega) ?_
  refine lg_ild C (j := 3) cd164_718 rfl rfl rfl (by omega) (by omega) ?_
  refine lg_iconst C (v := 1) cd164_719 (by decide) (by omega) (by omega) ?_
  refine lg_iadd C cd164_720 (by omega) (by omega) ?_
  refine lg_scr C (j := 1) cd164_721 (by decide) (by decide) hv1 ?_
  refine lg_call C (r := r) (as := [(2, 0, 0), v1]) (S0 := []) cd164_722 (sy_calV (as := [(2, 0, 0), v1]) (S0 := []) ml164_91 rfl rfl) (by decide) (by decide) z4 (by decide) (tt_met htl (tt_mb 86 (by decide)).1 (sy_oks_cons rfl z1) (by rw [Nat.add_comm] at z2; exact z2) z5) ⟨by omega, by rw [mL86]; omega⟩ ⟨by omega, by omega⟩ ?_
  rw [z8]
  simp only [List.cons_append, List.nil_append]
  refine lg_ald C (j := 2) cd164_725 rfl rfl rfl (by omega) (by omega) ?_
  refine lg_ald C (j := 0) cd164_726 rfl rfl rfl (by omega) (by omega) ?_
  refine lg_ild C (j := 3) cd164_727 rfl rfl rfl (by omega) (by omega) ?_
  refine lg_iconst C (v := 1) cd164_728 (by decide) (by omega) (by omega) ?_
  refine lg_iadd C cd164_729 (by omega) (by omega) ?_
  refine lg_scr C (j := 1) cd164_730 (by decide) (by decide) hv1 ?_
  refine lg_call C (r := q) (as := [(2, a.2.1, 0), v1]) (S0 := [x]) cd164_731 (sy_calV (as := [(2, a.2.1, 0), v1]) (S0 := [x]) ml164_94 rfl rfl) (by decide) (by decide) z6 (lw_cs1 x) (tt_met htl (tt_mb 155 (by decide)).1 (sy_oks_cons (sy_ok2 (by omega)) z1) (by rw [Nat.add_comm] at z3; exact z3) z7) ⟨by omega, by rw [mL155]; omega⟩ ⟨by omega, by omega⟩ ?_
  rw [z9]
  simp only [List.cons_append, List.nil_append]
  refine lg_eqt C (pc' := 950) cd164_734 (by decide) (by decide) z10 (by omega) (by omega) ?_
  exact lg_tail C hend (by omega) (by omega)
theorem lw_pay (C : lg_C p s m args meth c D tys A tb b0 6 xs) (hend : ∀ (ls : List mv_V) (n : Nat) (w : mv_T 10) (cells slots : Nat), cells ≤ R.cells → slots ≤ R.slots → lg_G p l e R s m args below meth c D tys A tb Q 957 ls [(0, 1, 0)] n w cells slots) (hR : 13 ≤ R.frames ∧ 560 ≤ R.locals) (hc1 : cells + 1800 ≤ R.cells) (hc2 : slots + 2000000 ≤ R.slots) {a b : mv_R} {v1 v2 : mv_V} (hv1 : ∀ (n : Nat) (ad : Nat → Nat), mv_r n ad tb v1 (.int (xs 1))) (hv2 : ∀ (n : Nat) (ad : Nat → Nat), mv_r n ad tb v2 (.int (xs 2))) (hz : z_1 a b 87 156 [v1, v2] = true) (hn1 : a.2.1 < 1000) : lg_G p l e R s m args below meth c D tys A tb Q 739 [(6, 7, 0), (2, 0, 0), (2, a.2.1, 0), (0, 0, 0)] [] b.2.1 b.2.2.1 cells slots := by
  obtain ⟨z1, z2, z3, z4, r, q, x, y, z5, z6, z7, z8, z9, z10, z11, z12⟩ := z_1_ok hz
  obtain ⟨o1, o2, o3, o4⟩ := z_ok_ok z11
  obtain ⟨o5, o6, o7, o8⟩ := z_ok_ok z12
  have htl := C.1.2.2.2.2.2.2.2.2.2
  refine lg_ald C (j := 1) cd164_739 rfl rfl rfl (by omega) (by omega) ?_
  refine lg_ald C (j := 0) cd164_740 rfl rfl rfl (by omega) (by omega) ?_
  refine lg_ild C (j := 3) cd164_741 rfl rfl rfl (by omega) (by omega) ?_
  refine lg_iconst C (v := 1) cd164_742 (by decide) (by omega) (by omega) ?_
  refine lg_iadd C cd164_743 (by omega) (by omega) ?_
  refine lg_scr C (j := 1) cd164_744 (by decide) (by decide) hv1 ?_
  refine lg_ald C (j := 0) cd164_745 rfl rfl rfl (by omega) (by omega) ?_
  refine lg_ild C (j := 3) cd164_746 rfl rfl rfl (by omega) (by omega) ?_
  refine lg_iconst C (v := 2) cd164_747 (by decide) (by omega) (by omega) ?_
  refine lg_iadd C cd164_748 (by omega) (by omega) ?_
  refine lg_scr C (j := 2) cd164_749 (by decide) (by decide) hv2 ?_
  refine lg_call C (r := r) (as := [(2, 0, 0), v1, v2]) (S0 := []) cd164_750 (sy_calV (as := [(2, 0, 0), v1, v2]) (S0 := []) ml164_95 rfl rfl) (by decide) (by decide) z4 (by decide) (tt_met htl (tt_mb 87 (by decide)).1 (sy_oks_cons rfl z1) (by rw [Nat.add_comm] at z2; exact z2) z5) ⟨by omega, by rw [mL87]; omega⟩ ⟨by omega, by omega⟩ ?_
  rw [z8]
  simp only [List.cons_append, List.nil_append]
  refine lg_ald C (j := 2) cd164_753 rfl rfl rfl (by omega) (by omega) ?_
  refine lg_ald C (j := 0) cd164_754 rfl rfl rfl (by omega) (by omega) ?_
  refine lg_ild C (j := 3) cd164_755 rfl rfl rfl (by omega) (by omega) ?_
  refine lg_iconst C (v := 1) cd164_756 (by decide) (by omega) (by omega) ?_
  refine lg_iadd C cd164_757 (by omega) (by omega) ?_
  refine lg_scr C (j := 1) cd164_758 (by decide) (by decide) hv1 ?_
  refine lg_ald C (j := 0) cd164_759 rfl rfl rfl (by omega) (by omega) ?_
  refine lg_ild C (j := 3) cd164_760 rfl rfl rfl (by omega) (by omega) ?_
  refine lg_iconst C (v := 2) cd164_761 (by decide) (by omega) (by omega) ?_
  refine lg_iadd C cd164_762 (by omega) (by omega) ?_
  refine lg_scr C (j := 2) cd164_763 (by decide) (by decide) hv2 ?_
  refine lg_call C (r := q) (as := [(2, a.2.1, 0), v1, v2]) (S0 := [x]) cd164_764 (sy_calV (as := [(2, a.2.1, 0), v1, v2]) (S0 := [x]) ml164_98 rfl rfl) (by decide) (by decide) z6 (lw_cs1 x) (tt_met htl (tt_mb 156 (by decide)).1 (sy_oks_cons (sy_ok2 (by omega)) z1) (by rw [Nat.add_comm] at z3; exact z3) z7) ⟨by omega, by rw [mL156]; omega⟩ ⟨by omega, by omega⟩ ?_
  rw [z9]
  simp only [List.cons_append, List.nil_append]
  refine lg_eqt C (pc' := 950) cd164_767 (by decide) (by decide) z10 (by omega) (by omega) ?_
  exact lg_tail C hend (by omega) (by omega)
theorem lw_draft (C : lg_C p s m args meth c D tys A tb b0 6 xs) (hend : ∀ (ls : List mv_V) (n : Nat) (w : mv_T 10) (cells slots : Nat), cells ≤ R.cells → slots ≤ R.slots → lg_G p l e R s m args below meth c D tys A tb Q 957 ls [(0, 1, 0)] n w cells slots) (hR : 13 ≤ R.frames ∧ 560 ≤ R.locals) (hc1 : cells + 1800 ≤ R.cells) (hc2 : slots + 2000000 ≤ R.slots) {a b : mv_R} {v1 v2 : mv_V} (hv1 : ∀ (n : Nat) (ad : Nat → Nat), mv_r n ad tb v1 (.int (xs 1))) (hv2 : ∀ (n : Nat) (ad : Nat → Nat), mv_r n ad tb v2 (.int (xs 2))) (hz : z_1 a b 88 157 [v1, v2] = true) (hn1 : a.2.1 < 1000) : lg_G p l e R s m args below meth c D tys A tb Q 772 [(6, 7, 0), (2, 0, 0), (2, a.2.1, 0), (0, 0, 0)] [] b.2.1 b.2.2.1 cells slots := by
  obtain ⟨z1, z2, z3, z4, r, q, x, y, z5, z6, z7, z8, z9, z10, z11, z12⟩ := z_1_ok hz
  obtain ⟨o1, o2, o3, o4⟩ := z_ok_ok z11
  obtain ⟨o5, o6, o7, o8⟩ := z_ok_ok z12
  have htl := C.1.2.2.2.2.2.2.2.2.2
  refine lg_ald C (j := 1) cd164_772 rfl rfl rfl (by omega) (by omega) ?_
  refine lg_ald C (j := 0) cd164_773 rfl rfl rfl (by omega) (by omega) ?_
  refine lg_ild C (j := 3) cd164_774 rfl rfl rfl (by omega) (by omega) ?_
  refine lg_iconst C (v := 1) cd164_775 (by decide) (by omega) (by omega) ?_
  refine lg_iadd C cd164_776 (by omega) (by omega) ?_
  refine lg_scr C (j := 1) cd164_777 (by decide) (by decide) hv1 ?_
  refine lg_ald C (j := 0) cd164_778 rfl rfl rfl (by omega) (by omega) ?_
  refine lg_ild C (j := 3) cd164_779 rfl rfl rfl (by omega) (by omega) ?_
  refine lg_iconst C (v := 2) cd164_780 (by decide) (by omega) (by omega) ?_
  refine lg_iadd C cd164_781 (by omega) (by omega) ?_
  refine lg_scr C (j := 2) cd164_782 (by decide) (by decide) hv2 ?_
  refine lg_call C (r := r) (as := [(2, 0, 0), v1, v2]) (S0 := []) cd164_783 (sy_calV (as := [(2, 0, 0), v1, v2]) (S0 := []) ml164_99 rfl rfl) (by decide) (by decide) z4 (by decide) (tt_met htl (tt_mb 88 (by decide)).1 (sy_oks_cons rfl z1) (by rw [Nat.add_comm] at z2; exact z2) z5) ⟨by omega, by rw [mL88]; omega⟩ ⟨by omega, by omega⟩ ?_
  rw [z8]
  simp only [List.cons_append, List.nil_append]
  refine lg_ald C (j := 2) cd164_786 rfl rfl rfl (by omega) (by omega) ?_
  refine lg_ald C (j := 0) cd164_787 rfl rfl rfl (by omega) (by omega) ?_
  refine lg_ild C (j := 3) cd164_788 rfl rfl rfl (by omega) (by omega) ?_
  refine lg_iconst C (v := 1) cd164_789 (by decide) (by omega) (by omega) ?_
  refine lg_iadd C cd164_790 (by omega) (by omega) ?_
  refine lg_scr C (j := 1) cd164_791 (by decide) (by decide) hv1 ?_
  refine lg_ald C (j := 0) cd164_792 rfl rfl rfl (by omega) (by omega) ?_
  refine lg_ild C (j := 3) cd164_793 rfl rfl rfl (by omega) (by omega) ?_
  refine lg_iconst C (v := 2) cd164_794 (by decide) (by omega) (by omega) ?_
  refine lg_iadd C cd164_795 (by omega) (by omega) ?_
  refine lg_scr C (j := 2) cd164_796 (by decide) (by decide) hv2 ?_
  refine lg_call C (r := q) (as := [(2, a.2.1, 0), v1, v2]) (S0 := [x]) cd164_797 (sy_calV (as := [(2, a.2.1, 0), v1, v2]) (S0 := [x]) ml164_102 rfl rfl) (by decide) (by decide) z6 (lw_cs1 x) (tt_met htl (tt_mb 157 (by decide)).1 (sy_oks_cons (sy_ok2 (by omega)) z1) (by rw [Nat.add_comm] at z3; exact z3) z7) ⟨by omega, by rw [mL157]; omega⟩ ⟨by omega, by omega⟩ ?_
  rw [z9]
  simp only [List.cons_append, List.nil_append]
  refine lg_eqt C (pc' := 950) cd164_800 (by decide) (by decide) z10 (by omega) (by omega) ?_
  exact lg_tail C hend (by omega) (by omega)
theorem lw_sign (C : lg_C p s m args meth c D tys A tb b0 6 xs) (hend : ∀ (ls : List mv_V) (n : Nat) (w : mv_T 10) (cells slots : Nat), cells ≤ R.cells → slots ≤ R.slots → lg_G p l e R s m args below meth c D tys A tb Q 957 ls [(0, 1, 0)] n w cells slots) (hR : 13 ≤ R.frames ∧ 560 ≤ R.locals) (hc1 : cells + 1800 ≤ R.cells) (hc2 : slots + 2000000 ≤ R.slots) {a b : mv_R} {v1 : mv_V} (hv1 : ∀ (n : Nat) (ad : Nat → Nat), mv_r n ad tb v1 (.int (xs 1))) (hz : z_1 a b 90 159 [v1] = true) (hn1 : a.2.1 < 1000) : lg_G p l e R s m args below meth c D tys A tb Q 805 [(6, 7, 0), (2, 0, 0), (2, a.2.1, 0), (0, 0, 0)] [] b.2.1 b.2.2.1 cells slots := by
  obtain ⟨z1, z2, z3, z4, r, q, x, y, z5, z6, z7, z8, z9, z10, z11, z12⟩ := z_1_ok hz
  obtain ⟨o1, o2, o3, o4⟩ := z_ok_ok z11
  obtain ⟨o5, o6, o7, o8⟩ := z_ok_ok z12
  have htl := C.1.2.2.2.2.2.2.2.2.2
  refine lg_ald C (j := 1) cd164_805 rfl rfl rfl (by omega) (by omega) ?_
  refine lg_ald C (j := 0) cd164_806 rfl rfl rfl (by omega) (by omega) ?_
  refine lg_ild C (j := 3) cd164_807 rfl rfl rfl (by omega) (by omega) ?_
  refine lg_iconst C (v := 1) cd164_808 (by decide) (by omega) (by omega) ?_
  refine lg_iadd C cd164_809 (by omega) (by omega) ?_
  refine lg_scr C (j := 1) cd164_810 (by decide) (by decide) hv1 ?_
  refine lg_call C (r := r) (as := [(2, 0, 0), v1]) (S0 := []) cd164_811 (sy_calV (as := [(2, 0, 0), v1]) (S0 := []) ml164_103 rfl rfl) (by decide) (by decide) z4 (by decide) (tt_met htl (tt_mb 90 (by decide)).1 (sy_oks_cons rfl z1) (by rw [Nat.add_comm] at z2; exact z2) z5) ⟨by omega, by rw [mL90]; omega⟩ ⟨by omega, by omega⟩ ?_
  rw [z8]
  simp only [List.cons_append, List.nil_append]
  refine lg_ald C (j := 2) cd164_814 rfl rfl rfl (by omega) (by omega) ?_
  refine lg_ald C (j := 0) cd164_815 rfl rfl rfl (by omega) (by omega) ?_
  refine lg_ild C (j := 3) cd164_816 rfl rfl rfl (by omega) (by omega) ?_
  refine lg_iconst C (v := 1) cd164_817 (by decide) (by omega) (by omega) ?_
  refine lg_iadd C cd164_818 (by omega) (by omega) ?_
  refine lg_scr C (j := 1) cd164_819 (by decide) (by decide) hv1 ?_
  refine lg_call C (r := q) (as := [(2, a.2.1, 0), v1]) (S0 := [x]) cd164_820 (sy_calV (as := [(2, a.2.1, 0), v1]) (S0 := [x]) ml164_106 rfl rfl) (by decide) (by decide) z6 (lw_cs1 x) (tt_met htl (tt_mb 159 (by decide)).1 (sy_oks_cons (sy_ok2 (by omega)) z1) (by rw [Nat.add_comm] at z3; exact z3) z7) ⟨by omega, by rw [mL159]; omega⟩ ⟨by omega, by omega⟩ ?_
  rw [z9]
  simp only [List.cons_append, List.nil_append]
  refine lg_eqt C (pc' := 950) cd164_823 (by decide) (by decide) z10 (by omega) (by omega) ?_
  exact lg_tail C hend (by omega) (by omega)
theorem lw_draftByte (C : lg_C p s m args meth c D tys A tb b0 6 xs) (hend : ∀ (ls : List mv_V) (n : Nat) (w : mv_T 10) (cells slots : Nat), cells ≤ R.cells → slots ≤ R.slots → lg_G p l e R s m args below meth c D tys A tb Q 957 ls [(0, 1, 0)] n w cells slots) (hR : 13 ≤ R.frames ∧ 560 ≤ R.locals) (hc1 : cells + 1800 ≤ R.cells) (hc2 : slots + 2000000 ≤ R.slots) {a b : mv_R} {v1 v2 : mv_V} (hv1 : ∀ (n : Nat) (ad : Nat → Nat), mv_r n ad tb v1 (.int (xs 1))) (hv2 : ∀ (n : Nat) (ad : Nat → Nat), mv_r n ad tb v2 (.int (xs 2))) (hz : z_1 a b 91 160 [v1, v2] = true) (hn1 : a.2.1 < 1000) : lg_G p l e R s m args below meth c D tys A tb Q 828 [(6, 7, 0), (2, 0, 0), (2, a.2.1, 0), (0, 0, 0)] [] b.2.1 b.2.2.1 cells slots := by
  obtain ⟨z1, z2, z3, z4, r, q, x, y, z5, z6, z7, z8, z9, z10, z11, z12⟩ := z_1_ok hz
  obtain ⟨o1, o2, o3, o4⟩ := z_ok_ok z11
  obtain ⟨o5, o6, o7, o8⟩ := z_ok_ok z12
  have htl := C.1.2.2.2.2.2.2.2.2.2
  refine lg_ald C (j := 1) cd164_828 rfl rfl rfl (by omega) (by omega) ?_
  refine lg_ald C (j := 0) cd164_829 rfl rfl rfl (by omega) (by omega) ?_
  refine lg_ild C (j := 3) cd164_830 rfl rfl rfl (by omega) (by omega) ?_
  refine lg_iconst C (v := 1) cd164_831 (by decide) (by omega) (by omega) ?_
  refine lg_iadd C cd164_832 (by omega) (by omega) ?_
  refine lg_scr C (j := 1) cd164_833 (by decide) (by decide) hv1 ?_
  refine lg_ald C (j := 0) cd164_834 rfl rfl rfl (by omega) (by omega) ?_
  refine lg_ild C (j := 3) cd164_835 rfl rfl rfl (by omega) (by omega) ?_
  refine lg_iconst C (v := 2) cd164_836 (by decide) (by omega) (by omega) ?_
  refine lg_iadd C cd164_837 (by omega) (by omega) ?_
  refine lg_scr C (j := 2) cd164_838 (by decide) (by decide) hv2 ?_
  refine lg_call C (r := r) (as := [(2, 0, 0), v1, v2]) (S0 := []) cd164_839 (sy_calV (as := [(2, 0, 0), v1, v2]) (S0 := []) ml164_107 rfl rfl) (by decide) (by decide) z4 (by decide) (tt_met htl (tt_mb 91 (by decide)).1 (sy_oks_cons rfl z1) (by rw [Nat.add_comm] at z2; exact z2) z5) ⟨by omega, by rw [mL91]; omega⟩ ⟨by omega, by omega⟩ ?_
  rw [z8]
  simp only [List.cons_append, List.nil_append]
  refine lg_ald C (j := 2) cd164_842 rfl rfl rfl (by omega) (by omega) ?_
  refine lg_ald C (j := 0) cd164_843 rfl rfl rfl (by omega) (by omega) ?_
  refine lg_ild C (j := 3) cd164_844 rfl rfl rfl (by omega) (by omega) ?_
  refine lg_iconst C (v := 1) cd164_845 (by decide) (by omega) (by omega) ?_
  refine lg_iadd C cd164_846 (by omega) (by omega) ?_
  refine lg_scr C (j := 1) cd164_847 (by decide) (by decide) hv1 ?_
  refine lg_ald C (j := 0) cd164_848 rfl rfl rfl (by omega) (by omega) ?_
  refine lg_ild C (j := 3) cd164_849 rfl rfl rfl (by omega) (by omega) ?_
  refine lg_iconst C (v := 2) cd164_850 (by decide) (by omega) (by omega) ?_
  refine lg_iadd C cd164_851 (by omega) (by omega) ?_
  refine lg_scr C (j := 2) cd164_852 (by decide) (by decide) hv2 ?_
  refine lg_call C (r := q) (as := [(2, a.2.1, 0), v1, v2]) (S0 := [x]) cd164_853 (sy_calV (as := [(2, a.2.1, 0), v1, v2]) (S0 := [x]) ml164_110 rfl rfl) (by decide) (by decide) z6 (lw_cs1 x) (tt_met htl (tt_mb 160 (by decide)).1 (sy_oks_cons (sy_ok2 (by omega)) z1) (by rw [Nat.add_comm] at z3; exact z3) z7) ⟨by omega, by rw [mL160]; omega⟩ ⟨by omega, by omega⟩ ?_
  rw [z9]
  simp only [List.cons_append, List.nil_append]
  refine lg_eqt C (pc' := 950) cd164_856 (by decide) (by decide) z10 (by omega) (by omega) ?_
  exact lg_tail C hend (by omega) (by omega)
theorem lw_send (C : lg_C p s m args meth c D tys A tb b0 6 xs) (hend : ∀ (ls : List mv_V) (n : Nat) (w : mv_T 10) (cells slots : Nat), cells ≤ R.cells → slots ≤ R.slots → lg_G p l e R s m args below meth c D tys A tb Q 957 ls [(0, 1, 0)] n w cells slots) (hR : 13 ≤ R.frames ∧ 560 ≤ R.locals) (hc1 : cells + 1800 ≤ R.cells) (hc2 : slots + 2000000 ≤ R.slots) {a b : mv_R} {v1 v2 v3 : mv_V} (hv1 : ∀ (n : Nat) (ad : Nat → Nat), mv_r n ad tb v1 (.int (xs 1))) (hv2 : ∀ (n : Nat) (ad : Nat → Nat), mv_r n ad tb v2 (.int (xs 2))) (hv3 : ∀ (n : Nat) (ad : Nat → Nat), mv_r n ad tb v3 (.int (xs 3))) (hz : z_1 a b 92 161 [v1, v2, v3] = true) (hn1 : a.2.1 < 1000) : lg_G p l e R s m args below meth c D tys A tb Q 861 [(6, 7, 0), (2, 0, 0), (2, a.2.1, 0), (0, 0, 0)] [] b.2.1 b.2.2.1 cells slots := by
  obtain ⟨z1, z2, z3, z4, r, q, x, y, z5, z6, z7, z8, z9, z10, z11, z12⟩ := z_1_ok hz
  obtain ⟨o1, o2, o3, o4⟩ := z_ok_ok z11
  obtain ⟨o5, o6, o7, o8⟩ := z_ok_ok z12
  have htl := C.1.2.2.2.2.2.2.2.2.2
  refine lg_ald C (j := 1) cd164_861 rfl rfl rfl (by omega) (by omega) ?_
  refine lg_ald C (j := 0) cd164_862 rfl rfl rfl (by omega) (by omega) ?_
  refine lg_ild C (j := 3) cd164_863 rfl rfl rfl (by omega) (by omega) ?_
  refine lg_iconst C (v := 1) cd164_864 (by decide) (by omega) (by omega) ?_
  refine lg_iadd C cd164_865 (by omega) (by omega) ?_
  refine lg_scr C (j := 1) cd164_866 (by decide) (by decide) hv1 ?_
  refine lg_ald C (j := 0) cd164_867 rfl rfl rfl (by omega) (by omega) ?_
  refine lg_ild C (j := 3) cd164_868 rfl rfl rfl (by omega) (by omega) ?_
  refine lg_iconst C (v := 2) cd164_869 (by decide) (by omega) (by omega) ?_
  refine lg_iadd C cd164_870 (by omega) (by omega) ?_
  refine lg_scr C (j := 2) cd164_871 (by decide) (by decide) hv2 ?_
  refine lg_ald C (j := 0) cd164_872 rfl rfl rfl (by omega) (by omega) ?_
  refine lg_ild C (j := 3) cd164_873 rfl rfl rfl (by omega) (by omega) ?_
  refine lg_iconst C (v := 3) cd164_874 (by decide) (by omega) (by omega) ?_
  refine lg_iadd C cd164_875 (by omega) (by omega) ?_
  refine lg_scr C (j := 3) cd164_876 (by decide) (by decide) hv3 ?_
  refine lg_call C (r := r) (as := [(2, 0, 0), v1, v2, v3]) (S0 := []) cd164_877 (sy_calV (as := [(2, 0, 0), v1, v2, v3]) (S0 := []) ml164_111 rfl rfl) (by decide) (by decide) z4 (by decide) (tt_met htl (tt_mb 92 (by decide)).1 (sy_oks_cons rfl z1) (by rw [Nat.add_comm] at z2; exact z2) z5) ⟨by omega, by rw [mL92]; omega⟩ ⟨by omega, by omega⟩ ?_
  rw [z8]
  simp only [List.cons_append, List.nil_append]
  refine lg_ald C (j := 2) cd164_880 rfl rfl rfl (by omega) (by omega) ?_
  refine lg_ald C (j := 0) cd164_881 rfl rfl rfl (by omega) (by omega) ?_
  refine lg_ild C (j := 3) cd164_882 rfl rfl rfl (by omega) (by omega) ?_
  refine lg_iconst C (v := 1) cd164_883 (by decide) (by omega) (by omega) ?_
  refine lg_iadd C cd164_884 (by omega) (by omega) ?_
  refine lg_scr C (j := 1) cd164_885 (by decide) (by decide) hv1 ?_
  refine lg_ald C (j := 0) cd164_886 rfl rfl rfl (by omega) (by omega) ?_
  refine lg_ild C (j := 3) cd164_887 rfl rfl rfl (by omega) (by omega) ?_
  refine lg_iconst C (v := 2) cd164_888 (by decide) (by omega) (by omega) ?_
  refine lg_iadd C cd164_889 (by omega) (by omega) ?_
  refine lg_scr C (j := 2) cd164_890 (by decide) (by decide) hv2 ?_
  refine lg_ald C (j := 0) cd164_891 rfl rfl rfl (by omega) (by omega) ?_
  refine lg_ild C (j := 3) cd164_892 rfl rfl rfl (by omega) (by omega) ?_
  refine lg_iconst C (v := 3) cd164_893 (by decide) (by omega) (by omega) ?_
  refine lg_iadd C cd164_894 (by omega) (by omega) ?_
  refine lg_scr C (j := 3) cd164_895 (by decide) (by decide) hv3 ?_
  refine lg_call C (r := q) (as := [(2, a.2.1, 0), v1, v2, v3]) (S0 := [x]) cd164_896 (sy_calV (as := [(2, a.2.1, 0), v1, v2, v3]) (S0 := [x]) ml164_114 rfl rfl) (by decide) (by decide) z6 (lw_cs1 x) (tt_met htl (tt_mb 161 (by decide)).1 (sy_oks_cons (sy_ok2 (by omega)) z1) (by rw [Nat.add_comm] at z3; exact z3) z7) ⟨by omega, by rw [mL161]; omega⟩ ⟨by omega, by omega⟩ ?_
  rw [z9]
  simp only [List.cons_append, List.nil_append]
  refine lg_eqt C (pc' := 950) cd164_899 (by decide) (by decide) z10 (by omega) (by omega) ?_
  exact lg_tail C hend (by omega) (by omega)
theorem lw_drop (C : lg_C p s m args meth c D tys A tb b0 6 xs) (hend : ∀ (ls : List mv_V) (n : Nat) (w : mv_T 10) (cells slots : Nat), cells ≤ R.cells → slots ≤ R.slots → lg_G p l e R s m args below meth c D tys A tb Q 957 ls [(0, 1, 0)] n w cells slots) (hR : 13 ≤ R.frames ∧ 560 ≤ R.locals) (hc1 : cells + 1800 ≤ R.cells) (hc2 : slots + 2000000 ≤ R.slots) {a b : mv_R} {v1 : mv_V} (hv1 : ∀ (n : Nat) (ad : Nat → Nat), mv_r n ad tb v1 (.int (xs 1))) (hz : z_1 a b 93 162 [v1] = true) (hn1 : a.2.1 < 1000) : lg_G p l e R s m args below meth c D tys A tb Q 904 [(6, 7, 0), (2, 0, 0), (2, a.2.1, 0), (0, 0, 0)] [] b.2.1 b.2.2.1 cells slots := by
  obtain ⟨z1, z2, z3, z4, r, q, x, y, z5, z6, z7, z8, z9, z10, z11, z12⟩ := z_1_ok hz
  obtain ⟨o1, o2, o3, o4⟩ := z_ok_ok z11
  obtain ⟨o5, o6, o7, o8⟩ := z_ok_ok z12
  have htl := C.1.2.2.2.2.2.2.2.2.2
  refine lg_ald C (j := 1) cd164_904 rfl rfl rfl (by omega) (by omega) ?_
  refine lg_ald C (j := 0) cd164_905 rfl rfl rfl (by omega) (by omega) ?_
  refine lg_ild C (j := 3) cd164_906 rfl rfl rfl (by omega) (by omega) ?_
  refine lg_iconst C (v := 1) cd164_907 (by decide) (by omega) (by omega) ?_
  refine lg_iadd C cd164_908 (by omega) (by omega) ?_
  refine lg_scr C (j := 1) cd164_909 (by decide) (by decide) hv1 ?_
  refine lg_call C (r := r) (as := [(2, 0, 0), v1]) (S0 := []) cd164_910 (sy_calV (as := [(2, 0, 0), v1]) (S0 := []) ml164_115 rfl rfl) (by decide) (by decide) z4 (by decide) (tt_met htl (tt_mb 93 (by decide)).1 (sy_oks_cons rfl z1) (by rw [Nat.add_comm] at z2; exact z2) z5) ⟨by omega, by rw [mL93]; omega⟩ ⟨by omega, by omega⟩ ?_
  rw [z8]
  simp only [List.cons_append, List.nil_append]
  refine lg_ald C (j := 2) cd164_913 rfl rfl rfl (by omega) (by omega) ?_
  refine lg_ald C (j := 0) cd164_914 rfl rfl rfl (by omega) (by omega) ?_
  refine lg_ild C (j := 3) cd164_915 rfl rfl rfl (by omega) (by omega) ?_
  refine lg_iconst C (v := 1) cd164_916 (by decide) (by omega) (by omega) ?_
  refine lg_iadd C cd164_917 (by omega) (by omega) ?_
  refine lg_scr C (j := 1) cd164_918 (by decide) (by decide) hv1 ?_
  refine lg_call C (r := q) (as := [(2, a.2.1, 0), v1]) (S0 := [x]) cd164_919 (sy_calV (as := [(2, a.2.1, 0), v1]) (S0 := [x]) ml164_118 rfl rfl) (by decide) (by decide) z6 (lw_cs1 x) (tt_met htl (tt_mb 162 (by decide)).1 (sy_oks_cons (sy_ok2 (by omega)) z1) (by rw [Nat.add_comm] at z3; exact z3) z7) ⟨by omega, by rw [mL162]; omega⟩ ⟨by omega, by omega⟩ ?_
  rw [z9]
  simp only [List.cons_append, List.nil_append]
  refine lg_eqt C (pc' := 950) cd164_922 (by decide) (by decide) z10 (by omega) (by omega) ?_
  exact lg_tail C hend (by omega) (by omega)
theorem lw_check (C : lg_C p s m args meth c D tys A tb b0 6 xs) (hend : ∀ (ls : List mv_V) (n : Nat) (w : mv_T 10) (cells slots : Nat), cells ≤ R.cells → slots ≤ R.slots → lg_G p l e R s m args below meth c D tys A tb Q 957 ls [(0, 1, 0)] n w cells slots) (hR : 13 ≤ R.frames ∧ 560 ≤ R.locals) (hc1 : cells + 1800 ≤ R.cells) (hc2 : slots + 2000000 ≤ R.slots) {a b : mv_R} {v1 : mv_V} (hv1 : ∀ (n : Nat) (ad : Nat → Nat), mv_r n ad tb v1 (.int (xs 1))) (hz : z_1 a b 94 163 [v1] = true) (hn1 : a.2.1 < 1000) : lg_G p l e R s m args below meth c D tys A tb Q 927 [(6, 7, 0), (2, 0, 0), (2, a.2.1, 0), (0, 0, 0)] [] b.2.1 b.2.2.1 cells slots := by
  obtain ⟨z1, z2, z3, z4, r, q, x, y, z5, z6, z7, z8, z9, z10, z11, z12⟩ := z_1_ok hz
  obtain ⟨o1, o2, o3, o4⟩ := z_ok_ok z11
  obtain ⟨o5, o6, o7, o8⟩ := z_ok_ok z12
  have htl := C.1.2.2.2.2.2.2.2.2.2
  refine lg_ald C (j := 1) cd164_927 rfl rfl rfl (by omega) (by omega) ?_
  refine lg_ald C (j := 0) cd164_928 rfl rfl rfl (by omega) (by omega) ?_
  refine lg_ild C (j := 3) cd164_929 rfl rfl rfl (by omega) (by omega) ?_
  refine lg_iconst C (v := 1) cd164_930 (by decide) (by omega) (by omega) ?_
  refine lg_iadd C cd164_931 (by omega) (by omega) ?_
  refine lg_scr C (j := 1) cd164_932 (by decide) (by decide) hv1 ?_
  refine lg_call C (r := r) (as := [(2, 0, 0), v1]) (S0 := []) cd164_933 (sy_calV (as := [(2, 0, 0), v1]) (S0 := []) ml164_119 rfl rfl) (by decide) (by decide) z4 (by decide) (tt_met htl (tt_mb 94 (by decide)).1 (sy_oks_cons rfl z1) (by rw [Nat.add_comm] at z2; exact z2) z5) ⟨by omega, by rw [mL94]; omega⟩ ⟨by omega, by omega⟩ ?_
  rw [z8]
  simp only [List.cons_append, List.nil_append]
  refine lg_ald C (j := 2) cd164_936 rfl rfl rfl (by omega) (by omega) ?_
  refine lg_ald C (j := 0) cd164_937 rfl rfl rfl (by omega) (by omega) ?_
  refine lg_ild C (j := 3) cd164_938 rfl rfl rfl (by omega) (by omega) ?_
  refine lg_iconst C (v := 1) cd164_939 (by decide) (by omega) (by omega) ?_
  refine lg_iadd C cd164_940 (by omega) (by omega) ?_
  refine lg_scr C (j := 1) cd164_941 (by decide) (by decide) hv1 ?_
  refine lg_call C (r := q) (as := [(2, a.2.1, 0), v1]) (S0 := [x]) cd164_942 (sy_calV (as := [(2, a.2.1, 0), v1]) (S0 := [x]) ml164_122 rfl rfl) (by decide) (by decide) z6 (lw_cs1 x) (tt_met htl (tt_mb 163 (by decide)).1 (sy_oks_cons (sy_ok2 (by omega)) z1) (by rw [Nat.add_comm] at z3; exact z3) z7) ⟨by omega, by rw [mL163]; omega⟩ ⟨by omega, by omega⟩ ?_
  rw [z9]
  simp only [List.cons_append, List.nil_append]
  refine lg_eqt C (pc' := 950) cd164_945 (by decide) (by decide) z10 (by omega) (by omega) ?_
  exact lg_tail C hend (by omega) (by omega)
end LX
