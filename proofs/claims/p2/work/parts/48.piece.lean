/-! PurseHouseModel.turned (method 105) and shaPiece (method 104), symbolically -/
theorem cd105_0 : tt_cd 105 0 = (1, .iload_n 0, 1) := by decide +kernel
theorem cd105_1 : tt_cd 105 1 = (1, .iload_n 1, 1) := by decide +kernel
theorem cd105_2 : tt_cd 105 2 = (2, .iushr, 1) := by decide +kernel
theorem cd105_3 : tt_cd 105 3 = (1, .iload_n 0, 1) := by decide +kernel
theorem cd105_4 : tt_cd 105 4 = (4, .bipush 32, 2) := by decide +kernel
theorem cd105_6 : tt_cd 105 6 = (1, .iload_n 1, 1) := by decide +kernel
theorem cd105_7 : tt_cd 105 7 = (2, .isub, 1) := by decide +kernel
theorem cd105_8 : tt_cd 105 8 = (2, .ishl, 1) := by decide +kernel
theorem cd105_9 : tt_cd 105 9 = (2, .ior, 1) := by decide +kernel
theorem cd105_10 : tt_cd 105 10 = (9, .ireturn, 1) := by decide +kernel
theorem mL105 : tt_mL 105 = 2 := by decide +kernel
theorem mr105 : tt_mr 105 = 1 := by decide +kernel
def mr_t (a m : Nat) : Nat := mo_or (mo_ushr a m) (mo_shl a (mo_sub 32 m))
theorem mr_t_lt (a m : Nat) : mr_t a m < 4294967296 := mo_or_lt (mo_ushr_lt _ _) (mo_shl_lt _ _)
theorem mr_turn {n : Nat} {w : mv_T 10} {a m : Nat} (ha : a < 4294967296) (hm : m < 4294967296) : ∃ f, sy_run f 105 0 (mv_l0 0 [(0, a, 0), (0, m, 0)] 0) [] n w 0 0 = some ([(0, mr_t a m, 0)], n, w, 0, 0, 0, 0) := by
  refine sy_whole (us := []) (ls' := [(0, a, 0), (0, m, 0)]) (pe := 10) (by simp only [mv_oks, sy_ok0 ha, sy_ok0 hm, Bool.and_self]) rfl rfl ?_ (fun L f => sy_reti cd105_10 mr105 rfl)
  show sy_R 105 n 0 0 0 [(0, a, 0), (0, m, 0)] [] w 10 [(0, a, 0), (0, m, 0)] [(0, mr_t a m, 0)] w
  refine sy_ildn cd105_0 rfl rfl ?_
  refine sy_ildn cd105_1 rfl rfl ?_
  refine sy_iushr cd105_2 ?_
  refine sy_ildn cd105_3 rfl rfl ?_
  refine sy_bipush (v := 32) cd105_4 (by decide) (by decide) ?_
  refine sy_ildn cd105_6 rfl rfl ?_
  refine sy_isub cd105_7 ?_
  refine sy_ishl cd105_8 ?_
  refine sy_ior cd105_9 ?_
  exact sy_refl
theorem cd104_0 : tt_cd 104 0 = (2, .iconst 0, 1) := by decide +kernel
theorem cd104_1 : tt_cd 104 1 = (1, .istore_n 1, 1) := by decide +kernel
theorem cd104_2 : tt_cd 104 2 = (1, .iload_n 1, 1) := by decide +kernel
theorem cd104_3 : tt_cd 104 3 = (4, .bipush 16, 2) := by decide +kernel
theorem cd104_5 : tt_cd 104 5 = (5, .if_icmp .ge 81, 3) := by decide +kernel
theorem cd104_8 : tt_cd 104 8 = (1, .aload_n 0, 1) := by decide +kernel
theorem cd104_9 : tt_cd 104 9 = (3, .getfield 106, 3) := by decide +kernel
theorem cd104_12 : tt_cd 104 12 = (1, .iload_n 1, 1) := by decide +kernel
theorem cd104_13 : tt_cd 104 13 = (1, .aload_n 0, 1) := by decide +kernel
theorem cd104_14 : tt_cd 104 14 = (3, .getfield 99, 3) := by decide +kernel
theorem cd104_17 : tt_cd 104 17 = (2, .iconst 4, 1) := by decide +kernel
theorem cd104_18 : tt_cd 104 18 = (1, .iload_n 1, 1) := by decide +kernel
theorem cd104_19 : tt_cd 104 19 = (2, .imul, 1) := by decide +kernel
theorem cd104_20 : tt_cd 104 20 = (3, .baload, 1) := by decide +kernel
theorem cd104_21 : tt_cd 104 21 = (4, .sipush 255, 3) := by decide +kernel
theorem cd104_24 : tt_cd 104 24 = (2, .iand, 1) := by decide +kernel
theorem cd104_25 : tt_cd 104 25 = (4, .bipush 24, 2) := by decide +kernel
theorem cd104_27 : tt_cd 104 27 = (2, .ishl, 1) := by decide +kernel
theorem cd104_28 : tt_cd 104 28 = (1, .aload_n 0, 1) := by decide +kernel
theorem cd104_29 : tt_cd 104 29 = (3, .getfield 99, 3) := by decide +kernel
theorem cd104_32 : tt_cd 104 32 = (2, .iconst 4, 1) := by decide +kernel
theorem cd104_33 : tt_cd 104 33 = (1, .iload_n 1, 1) := by decide +kernel
theorem cd104_34 : tt_cd 104 34 = (2, .imul, 1) := by decide +kernel
theorem cd104_35 : tt_cd 104 35 = (2, .iconst 1, 1) := by decide +kernel
theorem cd104_36 : tt_cd 104 36 = (2, .iadd, 1) := by decide +kernel
theorem cd104_37 : tt_cd 104 37 = (3, .baload, 1) := by decide +kernel
theorem cd104_38 : tt_cd 104 38 = (4, .sipush 255, 3) := by decide +kernel
theorem cd104_41 : tt_cd 104 41 = (2, .iand, 1) := by decide +kernel
theorem cd104_42 : tt_cd 104 42 = (4, .bipush 16, 2) := by decide +kernel
theorem cd104_44 : tt_cd 104 44 = (2, .ishl, 1) := by decide +kernel
theorem cd104_45 : tt_cd 104 45 = (2, .ior, 1) := by decide +kernel
theorem cd104_46 : tt_cd 104 46 = (1, .aload_n 0, 1) := by decide +kernel
theorem cd104_47 : tt_cd 104 47 = (3, .getfield 99, 3) := by decide +kernel
theorem cd104_50 : tt_cd 104 50 = (2, .iconst 4, 1) := by decide +kernel
theorem cd104_51 : tt_cd 104 51 = (1, .iload_n 1, 1) := by decide +kernel
theorem cd104_52 : tt_cd 104 52 = (2, .imul, 1) := by decide +kernel
theorem cd104_53 : tt_cd 104 53 = (2, .iconst 2, 1) := by decide +kernel
theorem cd104_54 : tt_cd 104 54 = (2, .iadd, 1) := by decide +kernel
theorem cd104_55 : tt_cd 104 55 = (3, .baload, 1) := by decide +kernel
theorem cd104_56 : tt_cd 104 56 = (4, .sipush 255, 3) := by decide +kernel
theorem cd104_59 : tt_cd 104 59 = (2, .iand, 1) := by decide +kernel
theorem cd104_60 : tt_cd 104 60 = (4, .bipush 8, 2) := by decide +kernel
theorem cd104_62 : tt_cd 104 62 = (2, .ishl, 1) := by decide +kernel
theorem cd104_63 : tt_cd 104 63 = (2, .ior, 1) := by decide +kernel
theorem cd104_64 : tt_cd 104 64 = (1, .aload_n 0, 1) := by decide +kernel
theorem cd104_65 : tt_cd 104 65 = (3, .getfield 99, 3) := by decide +kernel
theorem cd104_68 : tt_cd 104 68 = (2, .iconst 4, 1) := by decide +kernel
theorem cd104_69 : tt_cd 104 69 = (1, .iload_n 1, 1) := by decide +kernel
theorem cd104_70 : tt_cd 104 70 = (2, .imul, 1) := by decide +kernel
theorem cd104_71 : tt_cd 104 71 = (2, .iconst 3, 1) := by decide +kernel
theorem cd104_72 : tt_cd 104 72 = (2, .iadd, 1) := by decide +kernel
theorem cd104_73 : tt_cd 104 73 = (3, .baload, 1) := by decide +kernel
theorem cd104_74 : tt_cd 104 74 = (4, .sipush 255, 3) := by decide +kernel
theorem cd104_77 : tt_cd 104 77 = (2, .iand, 1) := by decide +kernel
theorem cd104_78 : tt_cd 104 78 = (2, .ior, 1) := by decide +kernel
theorem cd104_79 : tt_cd 104 79 = (6, .iastore, 1) := by decide +kernel
theorem cd104_80 : tt_cd 104 80 = (1, .iinc 1 1, 3) := by decide +kernel
theorem cd104_83 : tt_cd 104 83 = (5, .goto (-81), 3) := by decide +kernel
theorem cd104_86 : tt_cd 104 86 = (4, .bipush 16, 2) := by decide +kernel
theorem cd104_88 : tt_cd 104 88 = (1, .istore_n 1, 1) := by decide +kernel
theorem cd104_89 : tt_cd 104 89 = (1, .iload_n 1, 1) := by decide +kernel
theorem cd104_90 : tt_cd 104 90 = (4, .bipush 64, 2) := by decide +kernel
theorem cd104_92 : tt_cd 104 92 = (5, .if_icmp .ge 98, 3) := by decide +kernel
theorem cd104_95 : tt_cd 104 95 = (1, .aload_n 0, 1) := by decide +kernel
theorem cd104_96 : tt_cd 104 96 = (3, .getfield 106, 3) := by decide +kernel
theorem cd104_99 : tt_cd 104 99 = (1, .iload_n 1, 1) := by decide +kernel
theorem cd104_100 : tt_cd 104 100 = (4, .bipush 15, 2) := by decide +kernel
theorem cd104_102 : tt_cd 104 102 = (2, .isub, 1) := by decide +kernel
theorem cd104_103 : tt_cd 104 103 = (3, .iaload, 1) := by decide +kernel
theorem cd104_104 : tt_cd 104 104 = (1, .istore_n 2, 1) := by decide +kernel
theorem cd104_105 : tt_cd 104 105 = (1, .aload_n 0, 1) := by decide +kernel
theorem cd104_106 : tt_cd 104 106 = (3, .getfield 106, 3) := by decide +kernel
theorem cd104_109 : tt_cd 104 109 = (1, .iload_n 1, 1) := by decide +kernel
theorem cd104_110 : tt_cd 104 110 = (2, .iconst 2, 1) := by decide +kernel
theorem cd104_111 : tt_cd 104 111 = (2, .isub, 1) := by decide +kernel
theorem cd104_112 : tt_cd 104 112 = (3, .iaload, 1) := by decide +kernel
theorem cd104_113 : tt_cd 104 113 = (1, .istore_n 3, 1) := by decide +kernel
theorem cd104_114 : tt_cd 104 114 = (1, .iload_n 2, 1) := by decide +kernel
theorem cd104_115 : tt_cd 104 115 = (4, .bipush 7, 2) := by decide +kernel
theorem cd104_117 : tt_cd 104 117 = (10, .invokestatic 109, 3) := by decide +kernel
theorem cd104_120 : tt_cd 104 120 = (1, .iload_n 2, 1) := by decide +kernel
theorem cd104_121 : tt_cd 104 121 = (4, .bipush 18, 2) := by decide +kernel
theorem cd104_123 : tt_cd 104 123 = (10, .invokestatic 109, 3) := by decide +kernel
theorem cd104_126 : tt_cd 104 126 = (2, .ixor, 1) := by decide +kernel
theorem cd104_127 : tt_cd 104 127 = (1, .iload_n 2, 1) := by decide +kernel
theorem cd104_128 : tt_cd 104 128 = (2, .iconst 3, 1) := by decide +kernel
theorem cd104_129 : tt_cd 104 129 = (2, .iushr, 1) := by decide +kernel
theorem cd104_130 : tt_cd 104 130 = (2, .ixor, 1) := by decide +kernel
theorem cd104_131 : tt_cd 104 131 = (1, .istore 4, 2) := by decide +kernel
theorem cd104_133 : tt_cd 104 133 = (1, .iload_n 3, 1) := by decide +kernel
theorem cd104_134 : tt_cd 104 134 = (4, .bipush 17, 2) := by decide +kernel
theorem cd104_136 : tt_cd 104 136 = (10, .invokestatic 109, 3) := by decide +kernel
theorem cd104_139 : tt_cd 104 139 = (1, .iload_n 3, 1) := by decide +kernel
theorem cd104_140 : tt_cd 104 140 = (4, .bipush 19, 2) := by decide +kernel
theorem cd104_142 : tt_cd 104 142 = (10, .invokestatic 109, 3) := by decide +kernel
theorem cd104_145 : tt_cd 104 145 = (2, .ixor, 1) := by decide +kernel
theorem cd104_146 : tt_cd 104 146 = (1, .iload_n 3, 1) := by decide +kernel
theorem cd104_147 : tt_cd 104 147 = (4, .bipush 10, 2) := by decide +kernel
theorem cd104_149 : tt_cd 104 149 = (2, .iushr, 1) := by decide +kernel
theorem cd104_150 : tt_cd 104 150 = (2, .ixor, 1) := by decide +kernel
theorem cd104_151 : tt_cd 104 151 = (1, .istore 5, 2) := by decide +kernel
theorem cd104_153 : tt_cd 104 153 = (1, .aload_n 0, 1) := by decide +kernel
theorem cd104_154 : tt_cd 104 154 = (3, .getfield 106, 3) := by decide +kernel
theorem cd104_157 : tt_cd 104 157 = (1, .iload_n 1, 1) := by decide +kernel
theorem cd104_158 : tt_cd 104 158 = (1, .aload_n 0, 1) := by decide +kernel
theorem cd104_159 : tt_cd 104 159 = (3, .getfield 106, 3) := by decide +kernel
theorem cd104_162 : tt_cd 104 162 = (1, .iload_n 1, 1) := by decide +kernel
theorem cd104_163 : tt_cd 104 163 = (4, .bipush 16, 2) := by decide +kernel
theorem cd104_165 : tt_cd 104 165 = (2, .isub, 1) := by decide +kernel
theorem cd104_166 : tt_cd 104 166 = (3, .iaload, 1) := by decide +kernel
theorem cd104_167 : tt_cd 104 167 = (1, .iload 4, 2) := by decide +kernel
theorem cd104_169 : tt_cd 104 169 = (2, .iadd, 1) := by decide +kernel
theorem cd104_170 : tt_cd 104 170 = (1, .aload_n 0, 1) := by decide +kernel
theorem cd104_171 : tt_cd 104 171 = (3, .getfield 106, 3) := by decide +kernel
theorem cd104_174 : tt_cd 104 174 = (1, .iload_n 1, 1) := by decide +kernel
theorem cd104_175 : tt_cd 104 175 = (4, .bipush 7, 2) := by decide +kernel
theorem cd104_177 : tt_cd 104 177 = (2, .isub, 1) := by decide +kernel
theorem cd104_178 : tt_cd 104 178 = (3, .iaload, 1) := by decide +kernel
theorem cd104_179 : tt_cd 104 179 = (2, .iadd, 1) := by decide +kernel
theorem cd104_180 : tt_cd 104 180 = (1, .iload 5, 2) := by decide +kernel
theorem cd104_182 : tt_cd 104 182 = (2, .iadd, 1) := by decide +kernel
theorem cd104_183 : tt_cd 104 183 = (6, .iastore, 1) := by decide +kernel
theorem cd104_184 : tt_cd 104 184 = (1, .iinc 1 1, 3) := by decide +kernel
theorem cd104_187 : tt_cd 104 187 = (5, .goto (-98), 3) := by decide +kernel
theorem cd104_190 : tt_cd 104 190 = (2, .iconst 0, 1) := by decide +kernel
theorem cd104_191 : tt_cd 104 191 = (1, .istore_n 1, 1) := by decide +kernel
theorem cd104_192 : tt_cd 104 192 = (1, .iload_n 1, 1) := by decide +kernel
theorem cd104_193 : tt_cd 104 193 = (4, .bipush 8, 2) := by decide +kernel
theorem cd104_195 : tt_cd 104 195 = (5, .if_icmp .ge 21, 3) := by decide +kernel
theorem cd104_198 : tt_cd 104 198 = (1, .aload_n 0, 1) := by decide +kernel
theorem cd104_199 : tt_cd 104 199 = (3, .getfield 112, 3) := by decide +kernel
theorem cd104_202 : tt_cd 104 202 = (1, .iload_n 1, 1) := by decide +kernel
theorem cd104_203 : tt_cd 104 203 = (1, .aload_n 0, 1) := by decide +kernel
theorem cd104_204 : tt_cd 104 204 = (3, .getfield 85, 3) := by decide +kernel
theorem cd104_207 : tt_cd 104 207 = (1, .iload_n 1, 1) := by decide +kernel
theorem cd104_208 : tt_cd 104 208 = (3, .iaload, 1) := by decide +kernel
theorem cd104_209 : tt_cd 104 209 = (6, .iastore, 1) := by decide +kernel
theorem cd104_210 : tt_cd 104 210 = (1, .iinc 1 1, 3) := by decide +kernel
theorem cd104_213 : tt_cd 104 213 = (5, .goto (-21), 3) := by decide +kernel
theorem cd104_216 : tt_cd 104 216 = (2, .iconst 0, 1) := by decide +kernel
theorem cd104_217 : tt_cd 104 217 = (1, .istore_n 1, 1) := by decide +kernel
theorem cd104_218 : tt_cd 104 218 = (1, .iload_n 1, 1) := by decide +kernel
theorem cd104_219 : tt_cd 104 219 = (4, .bipush 64, 2) := by decide +kernel
theorem cd104_221 : tt_cd 104 221 = (5, .if_icmp .ge 214, 3) := by decide +kernel
theorem cd104_224 : tt_cd 104 224 = (1, .aload_n 0, 1) := by decide +kernel
theorem cd104_225 : tt_cd 104 225 = (3, .getfield 112, 3) := by decide +kernel
theorem cd104_228 : tt_cd 104 228 = (2, .iconst 4, 1) := by decide +kernel
theorem cd104_229 : tt_cd 104 229 = (3, .iaload, 1) := by decide +kernel
theorem cd104_230 : tt_cd 104 230 = (1, .istore_n 2, 1) := by decide +kernel
theorem cd104_231 : tt_cd 104 231 = (1, .aload_n 0, 1) := by decide +kernel
theorem cd104_232 : tt_cd 104 232 = (3, .getfield 112, 3) := by decide +kernel
theorem cd104_235 : tt_cd 104 235 = (2, .iconst 0, 1) := by decide +kernel
theorem cd104_236 : tt_cd 104 236 = (3, .iaload, 1) := by decide +kernel
theorem cd104_237 : tt_cd 104 237 = (1, .istore_n 3, 1) := by decide +kernel
theorem cd104_238 : tt_cd 104 238 = (1, .iload_n 2, 1) := by decide +kernel
theorem cd104_239 : tt_cd 104 239 = (4, .bipush 6, 2) := by decide +kernel
theorem cd104_241 : tt_cd 104 241 = (10, .invokestatic 109, 3) := by decide +kernel
theorem cd104_244 : tt_cd 104 244 = (1, .iload_n 2, 1) := by decide +kernel
theorem cd104_245 : tt_cd 104 245 = (4, .bipush 11, 2) := by decide +kernel
theorem cd104_247 : tt_cd 104 247 = (10, .invokestatic 109, 3) := by decide +kernel
theorem cd104_250 : tt_cd 104 250 = (2, .ixor, 1) := by decide +kernel
theorem cd104_251 : tt_cd 104 251 = (1, .iload_n 2, 1) := by decide +kernel
theorem cd104_252 : tt_cd 104 252 = (4, .bipush 25, 2) := by decide +kernel
theorem cd104_254 : tt_cd 104 254 = (10, .invokestatic 109, 3) := by decide +kernel
theorem cd104_257 : tt_cd 104 257 = (2, .ixor, 1) := by decide +kernel
theorem cd104_258 : tt_cd 104 258 = (1, .istore 4, 2) := by decide +kernel
theorem cd104_260 : tt_cd 104 260 = (1, .iload_n 2, 1) := by decide +kernel
theorem cd104_261 : tt_cd 104 261 = (1, .aload_n 0, 1) := by decide +kernel
theorem cd104_262 : tt_cd 104 262 = (3, .getfield 112, 3) := by decide +kernel
theorem cd104_265 : tt_cd 104 265 = (2, .iconst 5, 1) := by decide +kernel
theorem cd104_266 : tt_cd 104 266 = (3, .iaload, 1) := by decide +kernel
theorem cd104_267 : tt_cd 104 267 = (2, .iand, 1) := by decide +kernel
theorem cd104_268 : tt_cd 104 268 = (1, .iload_n 2, 1) := by decide +kernel
theorem cd104_269 : tt_cd 104 269 = (2, .iconst (-1), 1) := by decide +kernel
theorem cd104_270 : tt_cd 104 270 = (2, .ixor, 1) := by decide +kernel
theorem cd104_271 : tt_cd 104 271 = (1, .aload_n 0, 1) := by decide +kernel
theorem cd104_272 : tt_cd 104 272 = (3, .getfield 112, 3) := by decide +kernel
theorem cd104_275 : tt_cd 104 275 = (4, .bipush 6, 2) := by decide +kernel
theorem cd104_277 : tt_cd 104 277 = (3, .iaload, 1) := by decide +kernel
theorem cd104_278 : tt_cd 104 278 = (2, .iand, 1) := by decide +kernel
theorem cd104_279 : tt_cd 104 279 = (2, .ixor, 1) := by decide +kernel
theorem cd104_280 : tt_cd 104 280 = (1, .istore 5, 2) := by decide +kernel
theorem cd104_282 : tt_cd 104 282 = (1, .aload_n 0, 1) := by decide +kernel
theorem cd104_283 : tt_cd 104 283 = (3, .getfield 112, 3) := by decide +kernel
theorem cd104_286 : tt_cd 104 286 = (4, .bipush 7, 2) := by decide +kernel
theorem cd104_288 : tt_cd 104 288 = (3, .iaload, 1) := by decide +kernel
theorem cd104_289 : tt_cd 104 289 = (1, .iload 4, 2) := by decide +kernel
theorem cd104_291 : tt_cd 104 291 = (2, .iadd, 1) := by decide +kernel
theorem cd104_292 : tt_cd 104 292 = (1, .iload 5, 2) := by decide +kernel
theorem cd104_294 : tt_cd 104 294 = (2, .iadd, 1) := by decide +kernel
theorem cd104_295 : tt_cd 104 295 = (1, .aload_n 0, 1) := by decide +kernel
theorem cd104_296 : tt_cd 104 296 = (3, .getfield 115, 3) := by decide +kernel
theorem cd104_299 : tt_cd 104 299 = (1, .iload_n 1, 1) := by decide +kernel
theorem cd104_300 : tt_cd 104 300 = (3, .iaload, 1) := by decide +kernel
theorem cd104_301 : tt_cd 104 301 = (2, .iadd, 1) := by decide +kernel
theorem cd104_302 : tt_cd 104 302 = (1, .aload_n 0, 1) := by decide +kernel
theorem cd104_303 : tt_cd 104 303 = (3, .getfield 106, 3) := by decide +kernel
theorem cd104_306 : tt_cd 104 306 = (1, .iload_n 1, 1) := by decide +kernel
theorem cd104_307 : tt_cd 104 307 = (3, .iaload, 1) := by decide +kernel
theorem cd104_308 : tt_cd 104 308 = (2, .iadd, 1) := by decide +kernel
theorem cd104_309 : tt_cd 104 309 = (1, .istore 6, 2) := by decide +kernel
theorem cd104_311 : tt_cd 104 311 = (1, .iload_n 3, 1) := by decide +kernel
theorem cd104_312 : tt_cd 104 312 = (2, .iconst 2, 1) := by decide +kernel
theorem cd104_313 : tt_cd 104 313 = (10, .invokestatic 109, 3) := by decide +kernel
theorem cd104_316 : tt_cd 104 316 = (1, .iload_n 3, 1) := by decide +kernel
theorem cd104_317 : tt_cd 104 317 = (4, .bipush 13, 2) := by decide +kernel
theorem cd104_319 : tt_cd 104 319 = (10, .invokestatic 109, 3) := by decide +kernel
theorem cd104_322 : tt_cd 104 322 = (2, .ixor, 1) := by decide +kernel
theorem cd104_323 : tt_cd 104 323 = (1, .iload_n 3, 1) := by decide +kernel
theorem cd104_324 : tt_cd 104 324 = (4, .bipush 22, 2) := by decide +kernel
theorem cd104_326 : tt_cd 104 326 = (10, .invokestatic 109, 3) := by decide +kernel
theorem cd104_329 : tt_cd 104 329 = (2, .ixor, 1) := by decide +kernel
theorem cd104_330 : tt_cd 104 330 = (1, .istore 7, 2) := by decide +kernel
theorem cd104_332 : tt_cd 104 332 = (1, .iload_n 3, 1) := by decide +kernel
theorem cd104_333 : tt_cd 104 333 = (1, .aload_n 0, 1) := by decide +kernel
theorem cd104_334 : tt_cd 104 334 = (3, .getfield 112, 3) := by decide +kernel
theorem cd104_337 : tt_cd 104 337 = (2, .iconst 1, 1) := by decide +kernel
theorem cd104_338 : tt_cd 104 338 = (3, .iaload, 1) := by decide +kernel
theorem cd104_339 : tt_cd 104 339 = (2, .iand, 1) := by decide +kernel
theorem cd104_340 : tt_cd 104 340 = (1, .iload_n 3, 1) := by decide +kernel
theorem cd104_341 : tt_cd 104 341 = (1, .aload_n 0, 1) := by decide +kernel
theorem cd104_342 : tt_cd 104 342 = (3, .getfield 112, 3) := by decide +kernel
theorem cd104_345 : tt_cd 104 345 = (2, .iconst 2, 1) := by decide +kernel
theorem cd104_346 : tt_cd 104 346 = (3, .iaload, 1) := by decide +kernel
theorem cd104_347 : tt_cd 104 347 = (2, .iand, 1) := by decide +kernel
theorem cd104_348 : tt_cd 104 348 = (2, .ixor, 1) := by decide +kernel
theorem cd104_349 : tt_cd 104 349 = (1, .aload_n 0, 1) := by decide +kernel
theorem cd104_350 : tt_cd 104 350 = (3, .getfield 112, 3) := by decide +kernel
theorem cd104_353 : tt_cd 104 353 = (2, .iconst 1, 1) := by decide +kernel
theorem cd104_354 : tt_cd 104 354 = (3, .iaload, 1) := by decide +kernel
theorem cd104_355 : tt_cd 104 355 = (1, .aload_n 0, 1) := by decide +kernel
theorem cd104_356 : tt_cd 104 356 = (3, .getfield 112, 3) := by decide +kernel
theorem cd104_359 : tt_cd 104 359 = (2, .iconst 2, 1) := by decide +kernel
theorem cd104_360 : tt_cd 104 360 = (3, .iaload, 1) := by decide +kernel
theorem cd104_361 : tt_cd 104 361 = (2, .iand, 1) := by decide +kernel
theorem cd104_362 : tt_cd 104 362 = (2, .ixor, 1) := by decide +kernel
theorem cd104_363 : tt_cd 104 363 = (1, .istore 8, 2) := by decide +kernel
theorem cd104_365 : tt_cd 104 365 = (1, .iload 7, 2) := by decide +kernel
theorem cd104_367 : tt_cd 104 367 = (1, .iload 8, 2) := by decide +kernel
theorem cd104_369 : tt_cd 104 369 = (2, .iadd, 1) := by decide +kernel
theorem cd104_370 : tt_cd 104 370 = (1, .istore 9, 2) := by decide +kernel
theorem cd104_372 : tt_cd 104 372 = (4, .bipush 7, 2) := by decide +kernel
theorem cd104_374 : tt_cd 104 374 = (1, .istore 10, 2) := by decide +kernel
theorem cd104_376 : tt_cd 104 376 = (1, .iload 10, 2) := by decide +kernel
theorem cd104_378 : tt_cd 104 378 = (5, .ifCond .le 25, 3) := by decide +kernel
theorem cd104_381 : tt_cd 104 381 = (1, .aload_n 0, 1) := by decide +kernel
theorem cd104_382 : tt_cd 104 382 = (3, .getfield 112, 3) := by decide +kernel
theorem cd104_385 : tt_cd 104 385 = (1, .iload 10, 2) := by decide +kernel
theorem cd104_387 : tt_cd 104 387 = (1, .aload_n 0, 1) := by decide +kernel
theorem cd104_388 : tt_cd 104 388 = (3, .getfield 112, 3) := by decide +kernel
theorem cd104_391 : tt_cd 104 391 = (1, .iload 10, 2) := by decide +kernel
theorem cd104_393 : tt_cd 104 393 = (2, .iconst 1, 1) := by decide +kernel
theorem cd104_394 : tt_cd 104 394 = (2, .isub, 1) := by decide +kernel
theorem cd104_395 : tt_cd 104 395 = (3, .iaload, 1) := by decide +kernel
theorem cd104_396 : tt_cd 104 396 = (6, .iastore, 1) := by decide +kernel
theorem cd104_397 : tt_cd 104 397 = (1, .iinc 10 (-1), 3) := by decide +kernel
theorem cd104_400 : tt_cd 104 400 = (5, .goto (-24), 3) := by decide +kernel
theorem cd104_403 : tt_cd 104 403 = (1, .aload_n 0, 1) := by decide +kernel
theorem cd104_404 : tt_cd 104 404 = (3, .getfield 112, 3) := by decide +kernel
theorem cd104_407 : tt_cd 104 407 = (2, .iconst 4, 1) := by decide +kernel
theorem cd104_408 : tt_cd 104 408 = (1, .aload_n 0, 1) := by decide +kernel
theorem cd104_409 : tt_cd 104 409 = (3, .getfield 112, 3) := by decide +kernel
theorem cd104_412 : tt_cd 104 412 = (2, .iconst 4, 1) := by decide +kernel
theorem cd104_413 : tt_cd 104 413 = (3, .iaload, 1) := by decide +kernel
theorem cd104_414 : tt_cd 104 414 = (1, .iload 6, 2) := by decide +kernel
theorem cd104_416 : tt_cd 104 416 = (2, .iadd, 1) := by decide +kernel
theorem cd104_417 : tt_cd 104 417 = (6, .iastore, 1) := by decide +kernel
theorem cd104_418 : tt_cd 104 418 = (1, .aload_n 0, 1) := by decide +kernel
theorem cd104_419 : tt_cd 104 419 = (3, .getfield 112, 3) := by decide +kernel
theorem cd104_422 : tt_cd 104 422 = (2, .iconst 0, 1) := by decide +kernel
theorem cd104_423 : tt_cd 104 423 = (1, .iload 6, 2) := by decide +kernel
theorem cd104_425 : tt_cd 104 425 = (1, .iload 9, 2) := by decide +kernel
theorem cd104_427 : tt_cd 104 427 = (2, .iadd, 1) := by decide +kernel
theorem cd104_428 : tt_cd 104 428 = (6, .iastore, 1) := by decide +kernel
theorem cd104_429 : tt_cd 104 429 = (1, .iinc 1 1, 3) := by decide +kernel
theorem cd104_432 : tt_cd 104 432 = (5, .goto (-214), 3) := by decide +kernel
theorem cd104_435 : tt_cd 104 435 = (2, .iconst 0, 1) := by decide +kernel
theorem cd104_436 : tt_cd 104 436 = (1, .istore_n 1, 1) := by decide +kernel
theorem cd104_437 : tt_cd 104 437 = (1, .iload_n 1, 1) := by decide +kernel
theorem cd104_438 : tt_cd 104 438 = (4, .bipush 8, 2) := by decide +kernel
theorem cd104_440 : tt_cd 104 440 = (5, .if_icmp .ge 28, 3) := by decide +kernel
theorem cd104_443 : tt_cd 104 443 = (1, .aload_n 0, 1) := by decide +kernel
theorem cd104_444 : tt_cd 104 444 = (3, .getfield 85, 3) := by decide +kernel
theorem cd104_447 : tt_cd 104 447 = (1, .iload_n 1, 1) := by decide +kernel
theorem cd104_448 : tt_cd 104 448 = (1, .aload_n 0, 1) := by decide +kernel
theorem cd104_449 : tt_cd 104 449 = (3, .getfield 85, 3) := by decide +kernel
theorem cd104_452 : tt_cd 104 452 = (1, .iload_n 1, 1) := by decide +kernel
theorem cd104_453 : tt_cd 104 453 = (3, .iaload, 1) := by decide +kernel
theorem cd104_454 : tt_cd 104 454 = (1, .aload_n 0, 1) := by decide +kernel
theorem cd104_455 : tt_cd 104 455 = (3, .getfield 112, 3) := by decide +kernel
theorem cd104_458 : tt_cd 104 458 = (1, .iload_n 1, 1) := by decide +kernel
theorem cd104_459 : tt_cd 104 459 = (3, .iaload, 1) := by decide +kernel
theorem cd104_460 : tt_cd 104 460 = (2, .iadd, 1) := by decide +kernel
theorem cd104_461 : tt_cd 104 461 = (6, .iastore, 1) := by decide +kernel
theorem cd104_462 : tt_cd 104 462 = (1, .iinc 1 1, 3) := by decide +kernel
theorem cd104_465 : tt_cd 104 465 = (5, .goto (-28), 3) := by decide +kernel
theorem cd104_468 : tt_cd 104 468 = (9, .return_, 1) := by decide +kernel
theorem mL104 : tt_mL 104 = 11 := by decide +kernel
theorem mrf_schedule : tt_fl 104 106 = (1, 0, 10) := by decide +kernel
theorem mrf_piece : tt_fl 104 99 = (1, 0, 12) := by decide +kernel
theorem mrf_v8 : tt_fl 104 112 = (1, 0, 11) := by decide +kernel
theorem mrf_state : tt_fl 104 85 = (1, 0, 9) := by decide +kernel
theorem mrf_roundNumber : tt_fl 104 115 = (1, 0, 7) := by decide +kernel
theorem mrc_turn : tt_ml 104 109 = (1, 105, 2) := by decide +kernel
theorem mr_tok {a m : Nat} (ha : a < 4294967296) (hm : m < 4294967296) : (mv_oks [(0, a, 0), (0, m, 0)] && Nat.ble (mv_cs [(0, a, 0), (0, m, 0)]) (tt_mL 105)) = true := by
  rw [mL105]
  simp only [mv_oks, sy_ok0 ha, sy_ok0 hm, Bool.and_self, Bool.true_and]
  rfl
noncomputable def mr_w (w : mv_T 10) (pq pv ps W V St : Nat) : mv_T 10 := mv_set 10 (mv_set 10 (mv_set 10 w pq (1, 0, 64, W)) pv (1, 0, 8, V)) ps (1, 0, 8, St)
def mr_H (w : mv_T 10) (p0 pp pk pq pv ps X P K : Nat) : Prop := (p0 < 1024 ∧ pp < 1024 ∧ pk < 1024 ∧ pq < 1024 ∧ pv < 1024 ∧ ps < 1024) ∧ (pq ≠ pv ∧ pq ≠ ps ∧ pv ≠ ps) ∧ (p0 ≠ pq ∧ p0 ≠ pv ∧ p0 ≠ ps) ∧ (pp ≠ pq ∧ pp ≠ pv ∧ pp ≠ ps) ∧ (pk ≠ pq ∧ pk ≠ pv ∧ pk ≠ ps) ∧ mv_get 10 w p0 = (0, 0, 107, X) ∧ mv_get 10 w pp = (1, 1, 64, P) ∧ mv_get 10 w pk = (1, 0, 64, K) ∧ mv_dec (mv_rd 136 X 10) = (2, pq, 0) ∧ mv_dec (mv_rd 136 X 12) = (2, pp, 0) ∧ mv_dec (mv_rd 136 X 11) = (2, pv, 0) ∧ mv_dec (mv_rd 136 X 9) = (2, ps, 0) ∧ mv_dec (mv_rd 136 X 7) = (2, pk, 0)
section MR
variable {w : mv_T 10} {p0 pp pk pq pv ps P K X W V St n fr lo : Nat}
theorem mr_other {j : Nat} (H : mr_H w p0 pp pk pq pv ps X P K) (hj : j < 1024) (h1 : j ≠ pq) (h2 : j ≠ pv) (h3 : j ≠ ps) : mv_get 10 (mr_w w pq pv ps W V St) j = mv_get 10 w j := by
  obtain ⟨⟨b0, b1, b2, b3, b4, b5⟩, -⟩ := H
  unfold mr_w
  rw [mv_gn b5 hj h3, mv_gn b4 hj h2, mv_gn b3 hj h1]
theorem mr_g0 (H : mr_H w p0 pp pk pq pv ps X P K) : mv_get 10 (mr_w w pq pv ps W V St) p0 = (0, 0, 107, X) := by
  rw [mr_other H H.1.1 H.2.2.1.1 H.2.2.1.2.1 H.2.2.1.2.2]
  exact H.2.2.2.2.2.1
theorem mr_gp (H : mr_H w p0 pp pk pq pv ps X P K) : mv_get 10 (mr_w w pq pv ps W V St) pp = (1, 1, 64, P) := by
  rw [mr_other H H.1.2.1 H.2.2.2.1.1 H.2.2.2.1.2.1 H.2.2.2.1.2.2]
  exact H.2.2.2.2.2.2.1
theorem mr_gk (H : mr_H w p0 pp pk pq pv ps X P K) : mv_get 10 (mr_w w pq pv ps W V St) pk = (1, 0, 64, K) := by
  rw [mr_other H H.1.2.2.1 H.2.2.2.2.1.1 H.2.2.2.2.1.2.1 H.2.2.2.2.1.2.2]
  exact H.2.2.2.2.2.2.2.1
theorem mr_gq (H : mr_H w p0 pp pk pq pv ps X P K) : mv_get 10 (mr_w w pq pv ps W V St) pq = (1, 0, 64, W) := by
  obtain ⟨⟨b0, b1, b2, b3, b4, b5⟩, ⟨c1, c2, c3⟩, -⟩ := H
  unfold mr_w
  rw [mv_gn b5 b3 c2, mv_gn b4 b3 c1, mv_gs b3]
theorem mr_gv (H : mr_H w p0 pp pk pq pv ps X P K) : mv_get 10 (mr_w w pq pv ps W V St) pv = (1, 0, 8, V) := by
  obtain ⟨⟨b0, b1, b2, b3, b4, b5⟩, ⟨c1, c2, c3⟩, -⟩ := H
  unfold mr_w
  rw [mv_gn b5 b4 c3, mv_gs b4]
theorem mr_gs (H : mr_H w p0 pp pk pq pv ps X P K) : mv_get 10 (mr_w w pq pv ps W V St) ps = (1, 0, 8, St) := by
  obtain ⟨⟨b0, b1, b2, b3, b4, b5⟩, ⟨c1, c2, c3⟩, -⟩ := H
  unfold mr_w
  rw [mv_gs b5]
theorem mr_sq {W' : Nat} (H : mr_H w p0 pp pk pq pv ps X P K) : mv_set 10 (mr_w w pq pv ps W V St) pq (1, 0, 64, W') = mr_w w pq pv ps W' V St := by
  obtain ⟨⟨b0, b1, b2, b3, b4, b5⟩, ⟨c1, c2, c3⟩, -⟩ := H
  unfold mr_w
  rw [mv_sc b5 b3 (Ne.symm c2), mv_sc b4 b3 (Ne.symm c1), mv_ss b3]
theorem mr_sv {V' : Nat} (H : mr_H w p0 pp pk pq pv ps X P K) : mv_set 10 (mr_w w pq pv ps W V St) pv (1, 0, 8, V') = mr_w w pq pv ps W V' St := by
  obtain ⟨⟨b0, b1, b2, b3, b4, b5⟩, ⟨c1, c2, c3⟩, -⟩ := H
  unfold mr_w
  rw [mv_sc b5 b4 (Ne.symm c3), mv_ss b4]
theorem mr_ss {St' : Nat} (H : mr_H w p0 pp pk pq pv ps X P K) : mv_set 10 (mr_w w pq pv ps W V St) ps (1, 0, 8, St') = mr_w w pq pv ps W V St' := by
  obtain ⟨⟨b0, b1, b2, b3, b4, b5⟩, ⟨c1, c2, c3⟩, -⟩ := H
  unfold mr_w
  rw [mv_ss b5]
theorem mr_id (H : mr_H w p0 pp pk pq pv ps X P K) (e0 : mv_get 10 w pq = (1, 0, 64, W)) (e1 : mv_get 10 w pv = (1, 0, 8, V)) (e2 : mv_get 10 w ps = (1, 0, 8, St)) : mr_w w pq pv ps W V St = w := by
  obtain ⟨⟨b0, b1, b2, b3, b4, b5⟩, -⟩ := H
  unfold mr_w
  rw [mv_sg b3 e0, mv_sg b4 e1, mv_sg b5 e2]
def mr_b (P i : Nat) : Nat := mo_or (mo_or (mo_or (mo_shl (mo_and (mv_rd 32 P (4 * i)) 255) 24) (mo_shl (mo_and (mv_rd 32 P (4 * i + 1)) 255) 16)) (mo_shl (mo_and (mv_rd 32 P (4 * i + 2)) 255) 8)) (mo_and (mv_rd 32 P (4 * i + 3)) 255)
def mr_W1 (P W : Nat) : Nat → Nat
  | 0 => W
  | i + 1 => mv_wr 32 (mr_W1 P W i) i (mr_b P i)
def mr_x (a : Nat) : Nat := mo_xor (mo_xor (mr_t a 7) (mr_t a 18)) (mo_ushr a 3)
def mr_y (a : Nat) : Nat := mo_xor (mo_xor (mr_t a 17) (mr_t a 19)) (mo_ushr a 10)
def mr_c (W i : Nat) : Nat := mo_add (mo_add (mo_add (mv_rd 32 W (i - 16)) (mr_x (mv_rd 32 W (i - 15)))) (mv_rd 32 W (i - 7))) (mr_y (mv_rd 32 W (i - 2)))
def mr_W2 (W : Nat) : Nat → Nat
  | 0 => W
  | m + 1 => mv_wr 32 (mr_W2 W m) (16 + m) (mr_c (mr_W2 W m) (16 + m))
def mr_V1 (St V : Nat) : Nat → Nat
  | 0 => V
  | i + 1 => mv_wr 32 (mr_V1 St V i) i (mv_rd 32 St i)
def mr_sh (V : Nat) : Nat → Nat
  | 0 => V
  | m + 1 => mv_wr 32 (mr_sh V m) (7 - m) (mv_rd 32 (mr_sh V m) (6 - m))
def mr_one (V kk ww : Nat) : Nat := mo_add (mo_add (mo_add (mo_add (mv_rd 32 V 7) (mo_xor (mo_xor (mr_t (mv_rd 32 V 4) 6) (mr_t (mv_rd 32 V 4) 11)) (mr_t (mv_rd 32 V 4) 25))) (mo_xor (mo_and (mv_rd 32 V 4) (mv_rd 32 V 5)) (mo_and (mo_xor (mv_rd 32 V 4) 4294967295) (mv_rd 32 V 6)))) kk) ww
def mr_two (V : Nat) : Nat := mo_add (mo_xor (mo_xor (mr_t (mv_rd 32 V 0) 2) (mr_t (mv_rd 32 V 0) 13)) (mr_t (mv_rd 32 V 0) 22)) (mo_xor (mo_xor (mo_and (mv_rd 32 V 0) (mv_rd 32 V 1)) (mo_and (mv_rd 32 V 0) (mv_rd 32 V 2))) (mo_and (mv_rd 32 V 1) (mv_rd 32 V 2)))
def mr_f (K W i V : Nat) : Nat := mv_wr 32 (mv_wr 32 (mr_sh V 7) 4 (mo_add (mv_rd 32 (mr_sh V 7) 4) (mr_one V (mv_rd 32 K i) (mv_rd 32 W i)))) 0 (mo_add (mr_one V (mv_rd 32 K i) (mv_rd 32 W i)) (mr_two V))
def mr_R (K W V : Nat) : Nat → Nat
  | 0 => V
  | i + 1 => mr_f K W i (mr_R K W V i)
def mr_S (V St : Nat) : Nat → Nat
  | 0 => St
  | i + 1 => mv_wr 32 (mr_S V St i) i (mo_add (mv_rd 32 (mr_S V St i) i) (mv_rd 32 V i))
theorem mr_A (H : mr_H w p0 pp pk pq pv ps X P K) : sy_R 104 n fr lo 0 [(2, p0, 0), (255, 0, 0), (255, 0, 0), (255, 0, 0), (255, 0, 0), (255, 0, 0), (255, 0, 0), (255, 0, 0), (255, 0, 0), (255, 0, 0), (255, 0, 0)] [] (mr_w w pq pv ps W V St) 2 [(2, p0, 0), (0, 0, 0), (255, 0, 0), (255, 0, 0), (255, 0, 0), (255, 0, 0), (255, 0, 0), (255, 0, 0), (255, 0, 0), (255, 0, 0), (255, 0, 0)] [] (mr_w w pq pv ps W V St) := by
  refine sy_iconst (v := 0) cd104_0 (by decide) ?_
  refine sy_istn (j := 1) cd104_1 rfl rfl (sy_ok0 (by repeat' first | assumption | exact mo_add_lt _ _ | exact mo_sub_lt _ _ | exact mo_mul_lt _ _ | exact mo_shl_lt _ _ | exact mo_ushr_lt _ _ | exact mo_rd_lt _ _ | exact mr_t_lt _ _ | refine mo_xor_lt ?_ ?_ | refine mo_or_lt ?_ ?_ | refine mo_and_lt ?_ | decide)) (by rw [mL104]; rfl) rfl ?_
  simp only [List.set_cons_zero, List.set_cons_succ]
  exact sy_refl
theorem mr_B {i : Nat} (hi : i < 16) (H : mr_H w p0 pp pk pq pv ps X P K) : sy_R 104 n fr lo 2 [(2, p0, 0), (0, i, 0), (255, 0, 0), (255, 0, 0), (255, 0, 0), (255, 0, 0), (255, 0, 0), (255, 0, 0), (255, 0, 0), (255, 0, 0), (255, 0, 0)] [] (mr_w w pq pv ps W V St) 2 [(2, p0, 0), (0, i + 1, 0), (255, 0, 0), (255, 0, 0), (255, 0, 0), (255, 0, 0), (255, 0, 0), (255, 0, 0), (255, 0, 0), (255, 0, 0), (255, 0, 0)] [] (mr_w w pq pv ps (mv_wr 32 W i (mr_b P i)) V St) := by
  refine sy_ildn cd104_2 rfl rfl ?_
  refine sy_bipush (v := 16) cd104_3 (by decide) (by decide) ?_
  refine sy_ge_f cd104_5 (by decide) hi (by decide) ?_
  refine sy_aldn cd104_8 rfl rfl ?_
  refine sy_gf cd104_9 mrf_schedule rfl (mr_g0 H) rfl H.2.2.2.2.2.2.2.2.1 ?_
  refine sy_ildn cd104_12 rfl rfl ?_
  refine sy_aldn cd104_13 rfl rfl ?_
  refine sy_gf cd104_14 mrf_piece rfl (mr_g0 H) rfl H.2.2.2.2.2.2.2.2.2.1 ?_
  refine sy_iconst (v := 4) cd104_17 (by decide) ?_
  refine sy_ildn cd104_18 rfl rfl ?_
  refine sy_imul cd104_19 ?_
  refine sy_bal (i := 4 * i) cd104_20 (mr_gp H) (by unfold mo_mul; omega) (by omega) (by decide) ?_
  refine sy_sipush (v := 255) cd104_21 (by decide) (by decide) ?_
  refine sy_iand cd104_24 ?_
  refine sy_bipush (v := 24) cd104_25 (by decide) (by decide) ?_
  refine sy_ishl cd104_27 ?_
  refine sy_aldn cd104_28 rfl rfl ?_
  refine sy_gf cd104_29 mrf_piece rfl (mr_g0 H) rfl H.2.2.2.2.2.2.2.2.2.1 ?_
  refine sy_iconst (v := 4) cd104_32 (by decide) ?_
  refine sy_ildn cd104_33 rfl rfl ?_
  refine sy_imul cd104_34 ?_
  refine sy_iconst (v := 1) cd104_35 (by decide) ?_
  refine sy_iadd cd104_36 ?_
  refine sy_bal (i := 4 * i + 1) cd104_37 (mr_gp H) (by unfold mo_add mo_mul; omega) (by omega) (by decide) ?_
  refine sy_sipush (v := 255) cd104_38 (by decide) (by decide) ?_
  refine sy_iand cd104_41 ?_
  refine sy_bipush (v := 16) cd104_42 (by decide) (by decide) ?_
  refine sy_ishl cd104_44 ?_
  refine sy_ior cd104_45 ?_
  refine sy_aldn cd104_46 rfl rfl ?_
  refine sy_gf cd104_47 mrf_piece rfl (mr_g0 H) rfl H.2.2.2.2.2.2.2.2.2.1 ?_
  refine sy_iconst (v := 4) cd104_50 (by decide) ?_
  refine sy_ildn cd104_51 rfl rfl ?_
  refine sy_imul cd104_52 ?_
  refine sy_iconst (v := 2) cd104_53 (by decide) ?_
  refine sy_iadd cd104_54 ?_
  refine sy_bal (i := 4 * i + 2) cd104_55 (mr_gp H) (by unfold mo_add mo_mul; omega) (by omega) (by decide) ?_
  refine sy_sipush (v := 255) cd104_56 (by decide) (by decide) ?_
  refine sy_iand cd104_59 ?_
  refine sy_bipush (v := 8) cd104_60 (by decide) (by decide) ?_
  refine sy_ishl cd104_62 ?_
  refine sy_ior cd104_63 ?_
  refine sy_aldn cd104_64 rfl rfl ?_
  refine sy_gf cd104_65 mrf_piece rfl (mr_g0 H) rfl H.2.2.2.2.2.2.2.2.2.1 ?_
  refine sy_iconst (v := 4) cd104_68 (by decide) ?_
  refine sy_ildn cd104_69 rfl rfl ?_
  refine sy_imul cd104_70 ?_
  refine sy_iconst (v := 3) cd104_71 (by decide) ?_
  refine sy_iadd cd104_72 ?_
  refine sy_bal (i := 4 * i + 3) cd104_73 (mr_gp H) (by unfold mo_add mo_mul; omega) (by omega) (by decide) ?_
  refine sy_sipush (v := 255) cd104_74 (by decide) (by decide) ?_
  refine sy_iand cd104_77 ?_
  refine sy_ior cd104_78 ?_
  refine sy_ias (i := i) cd104_79 (mr_gq H) rfl (by omega) (by decide) (mr_sq H) ?_
  refine sy_iinc (c := 1) cd104_80 rfl (by decide) (by rw [mL104]; rfl) rfl ?_
  simp only [List.set_cons_zero, List.set_cons_succ]
  refine sy_goto (pc' := 2) cd104_83 (by decide) (by decide) ?_
  rw [mo_inc (by omega)]
  exact sy_refl
theorem mr_Bs (H : mr_H w p0 pp pk pq pv ps X P K) : ∀ m, m ≤ 16 → sy_R 104 n fr lo 2 [(2, p0, 0), (0, 0, 0), (255, 0, 0), (255, 0, 0), (255, 0, 0), (255, 0, 0), (255, 0, 0), (255, 0, 0), (255, 0, 0), (255, 0, 0), (255, 0, 0)] [] (mr_w w pq pv ps W V St) 2 [(2, p0, 0), (0, m, 0), (255, 0, 0), (255, 0, 0), (255, 0, 0), (255, 0, 0), (255, 0, 0), (255, 0, 0), (255, 0, 0), (255, 0, 0), (255, 0, 0)] [] (mr_w w pq pv ps (mr_W1 P W m) V St)
  | 0, _ => sy_refl
  | m + 1, h => sy_trans (mr_Bs H m (by omega)) (mr_B (by omega) H)
theorem mr_C (H : mr_H w p0 pp pk pq pv ps X P K) : sy_R 104 n fr lo 2 [(2, p0, 0), (0, 16, 0), (255, 0, 0), (255, 0, 0), (255, 0, 0), (255, 0, 0), (255, 0, 0), (255, 0, 0), (255, 0, 0), (255, 0, 0), (255, 0, 0)] [] (mr_w w pq pv ps W V St) 89 [(2, p0, 0), (0, 16 + 0, 0), (255, 0, 0), (255, 0, 0), (255, 0, 0), (255, 0, 0), (255, 0, 0), (255, 0, 0), (255, 0, 0), (255, 0, 0), (255, 0, 0)] [] (mr_w w pq pv ps W V St) := by
  refine sy_ildn cd104_2 rfl rfl ?_
  refine sy_bipush (v := 16) cd104_3 (by decide) (by decide) ?_
  refine sy_ge_t (pc' := 86) cd104_5 (by decide) (Nat.le_refl 16) (by decide) (by decide) ?_
  refine sy_bipush (v := 16) cd104_86 (by decide) (by decide) ?_
  refine sy_istn (j := 1) cd104_88 rfl rfl (sy_ok0 (by repeat' first | assumption | exact mo_add_lt _ _ | exact mo_sub_lt _ _ | exact mo_mul_lt _ _ | exact mo_shl_lt _ _ | exact mo_ushr_lt _ _ | exact mo_rd_lt _ _ | exact mr_t_lt _ _ | refine mo_xor_lt ?_ ?_ | refine mo_or_lt ?_ ?_ | refine mo_and_lt ?_ | decide)) (by rw [mL104]; rfl) rfl ?_
  simp only [List.set_cons_zero, List.set_cons_succ]
  exact sy_refl
theorem mr_D {m : Nat} (hm : m < 48) (hfr : 0 + 1 ≤ fr) (hlo : 8 + (tt_mL 105 + 11) + 0 ≤ lo) (H : mr_H w p0 pp pk pq pv ps X P K) : sy_R 104 n fr lo 89 [(2, p0, 0), (0, 16 + m, 0), (255, 0, 0), (255, 0, 0), (255, 0, 0), (255, 0, 0), (255, 0, 0), (255, 0, 0), (255, 0, 0), (255, 0, 0), (255, 0, 0)] [] (mr_w w pq pv ps W V St) 89 [(2, p0, 0), (0, 16 + (m + 1), 0), (255, 0, 0), (255, 0, 0), (255, 0, 0), (255, 0, 0), (255, 0, 0), (255, 0, 0), (255, 0, 0), (255, 0, 0), (255, 0, 0)] [] (mr_w w pq pv ps (mv_wr 32 W (16 + m) (mr_c W (16 + m))) V St) := by
  refine sy_ildn cd104_89 rfl rfl ?_
  refine sy_bipush (v := 64) cd104_90 (by decide) (by decide) ?_
  refine sy_ge_f cd104_92 (by decide) (by omega) (by decide) ?_
  refine sy_aldn cd104_95 rfl rfl ?_
  refine sy_gf cd104_96 mrf_schedule rfl (mr_g0 H) rfl H.2.2.2.2.2.2.2.2.1 ?_
  refine sy_ildn cd104_99 rfl rfl ?_
  refine sy_bipush (v := 15) cd104_100 (by decide) (by decide) ?_
  refine sy_isub cd104_102 ?_
  refine sy_ial (i := 16 + m - 15) cd104_103 (mr_gq H) (by unfold mo_sub; omega) (by omega) (by decide) ?_
  refine sy_istn (j := 2) cd104_104 rfl rfl (sy_ok0 (by repeat' first | assumption | exact mo_add_lt _ _ | exact mo_sub_lt _ _ | exact mo_mul_lt _ _ | exact mo_shl_lt _ _ | exact mo_ushr_lt _ _ | exact mo_rd_lt _ _ | exact mr_t_lt _ _ | refine mo_xor_lt ?_ ?_ | refine mo_or_lt ?_ ?_ | refine mo_and_lt ?_ | decide)) (by rw [mL104]; rfl) rfl ?_
  simp only [List.set_cons_zero, List.set_cons_succ]
  refine sy_aldn cd104_105 rfl rfl ?_
  refine sy_gf cd104_106 mrf_schedule rfl (mr_g0 H) rfl H.2.2.2.2.2.2.2.2.1 ?_
  refine sy_ildn cd104_109 rfl rfl ?_
  refine sy_iconst (v := 2) cd104_110 (by decide) ?_
  refine sy_isub cd104_111 ?_
  refine sy_ial (i := 16 + m - 2) cd104_112 (mr_gq H) (by unfold mo_sub; omega) (by omega) (by decide) ?_
  refine sy_istn (j := 3) cd104_113 rfl rfl (sy_ok0 (by repeat' first | assumption | exact mo_add_lt _ _ | exact mo_sub_lt _ _ | exact mo_mul_lt _ _ | exact mo_shl_lt _ _ | exact mo_ushr_lt _ _ | exact mo_rd_lt _ _ | exact mr_t_lt _ _ | refine mo_xor_lt ?_ ?_ | refine mo_or_lt ?_ ?_ | refine mo_and_lt ?_ | decide)) (by rw [mL104]; rfl) rfl ?_
  simp only [List.set_cons_zero, List.set_cons_succ]
  refine sy_ildn cd104_114 rfl rfl ?_
  refine sy_bipush (v := 7) cd104_115 (by decide) (by decide) ?_
  refine sy_call2 cd104_117 mrc_turn rfl (mr_tok (by repeat' first | assumption | exact mo_add_lt _ _ | exact mo_sub_lt _ _ | exact mo_mul_lt _ _ | exact mo_shl_lt _ _ | exact mo_ushr_lt _ _ | exact mo_rd_lt _ _ | exact mr_t_lt _ _ | refine mo_xor_lt ?_ ?_ | refine mo_or_lt ?_ ?_ | refine mo_and_lt ?_ | decide) (by repeat' first | assumption | exact mo_add_lt _ _ | exact mo_sub_lt _ _ | exact mo_mul_lt _ _ | exact mo_shl_lt _ _ | exact mo_ushr_lt _ _ | exact mo_rd_lt _ _ | exact mr_t_lt _ _ | refine mo_xor_lt ?_ ?_ | refine mo_or_lt ?_ ?_ | refine mo_and_lt ?_ | decide)) (mr_turn (by repeat' first | assumption | exact mo_add_lt _ _ | exact mo_sub_lt _ _ | exact mo_mul_lt _ _ | exact mo_shl_lt _ _ | exact mo_ushr_lt _ _ | exact mo_rd_lt _ _ | exact mr_t_lt _ _ | refine mo_xor_lt ?_ ?_ | refine mo_or_lt ?_ ?_ | refine mo_and_lt ?_ | decide) (by repeat' first | assumption | exact mo_add_lt _ _ | exact mo_sub_lt _ _ | exact mo_mul_lt _ _ | exact mo_shl_lt _ _ | exact mo_ushr_lt _ _ | exact mo_rd_lt _ _ | exact mr_t_lt _ _ | refine mo_xor_lt ?_ ?_ | refine mo_or_lt ?_ ?_ | refine mo_and_lt ?_ | decide)) hfr hlo ?_
  refine sy_ildn cd104_120 rfl rfl ?_
  refine sy_bipush (v := 18) cd104_121 (by decide) (by decide) ?_
  refine sy_call2 cd104_123 mrc_turn rfl (mr_tok (by repeat' first | assumption | exact mo_add_lt _ _ | exact mo_sub_lt _ _ | exact mo_mul_lt _ _ | exact mo_shl_lt _ _ | exact mo_ushr_lt _ _ | exact mo_rd_lt _ _ | exact mr_t_lt _ _ | refine mo_xor_lt ?_ ?_ | refine mo_or_lt ?_ ?_ | refine mo_and_lt ?_ | decide) (by repeat' first | assumption | exact mo_add_lt _ _ | exact mo_sub_lt _ _ | exact mo_mul_lt _ _ | exact mo_shl_lt _ _ | exact mo_ushr_lt _ _ | exact mo_rd_lt _ _ | exact mr_t_lt _ _ | refine mo_xor_lt ?_ ?_ | refine mo_or_lt ?_ ?_ | refine mo_and_lt ?_ | decide)) (mr_turn (by repeat' first | assumption | exact mo_add_lt _ _ | exact mo_sub_lt _ _ | exact mo_mul_lt _ _ | exact mo_shl_lt _ _ | exact mo_ushr_lt _ _ | exact mo_rd_lt _ _ | exact mr_t_lt _ _ | refine mo_xor_lt ?_ ?_ | refine mo_or_lt ?_ ?_ | refine mo_and_lt ?_ | decide) (by repeat' first | assumption | exact mo_add_lt _ _ | exact mo_sub_lt _ _ | exact mo_mul_lt _ _ | exact mo_shl_lt _ _ | exact mo_ushr_lt _ _ | exact mo_rd_lt _ _ | exact mr_t_lt _ _ | refine mo_xor_lt ?_ ?_ | refine mo_or_lt ?_ ?_ | refine mo_and_lt ?_ | decide)) hfr hlo ?_
  refine sy_ixor cd104_126 ?_
  refine sy_ildn cd104_127 rfl rfl ?_
  refine sy_iconst (v := 3) cd104_128 (by decide) ?_
  refine sy_iushr cd104_129 ?_
  refine sy_ixor cd104_130 ?_
  refine sy_ist cd104_131 rfl (sy_ok0 (by repeat' first | assumption | exact mo_add_lt _ _ | exact mo_sub_lt _ _ | exact mo_mul_lt _ _ | exact mo_shl_lt _ _ | exact mo_ushr_lt _ _ | exact mo_rd_lt _ _ | exact mr_t_lt _ _ | refine mo_xor_lt ?_ ?_ | refine mo_or_lt ?_ ?_ | refine mo_and_lt ?_ | decide)) (by rw [mL104]; rfl) rfl ?_
  simp only [List.set_cons_zero, List.set_cons_succ]
  refine sy_ildn cd104_133 rfl rfl ?_
  refine sy_bipush (v := 17) cd104_134 (by decide) (by decide) ?_
  refine sy_call2 cd104_136 mrc_turn rfl (mr_tok (by repeat' first | assumption | exact mo_add_lt _ _ | exact mo_sub_lt _ _ | exact mo_mul_lt _ _ | exact mo_shl_lt _ _ | exact mo_ushr_lt _ _ | exact mo_rd_lt _ _ | exact mr_t_lt _ _ | refine mo_xor_lt ?_ ?_ | refine mo_or_lt ?_ ?_ | refine mo_and_lt ?_ | decide) (by repeat' first | assumption | exact mo_add_lt _ _ | exact mo_sub_lt _ _ | exact mo_mul_lt _ _ | exact mo_shl_lt _ _ | exact mo_ushr_lt _ _ | exact mo_rd_lt _ _ | exact mr_t_lt _ _ | refine mo_xor_lt ?_ ?_ | refine mo_or_lt ?_ ?_ | refine mo_and_lt ?_ | decide)) (mr_turn (by repeat' first | assumption | exact mo_add_lt _ _ | exact mo_sub_lt _ _ | exact mo_mul_lt _ _ | exact mo_shl_lt _ _ | exact mo_ushr_lt _ _ | exact mo_rd_lt _ _ | exact mr_t_lt _ _ | refine mo_xor_lt ?_ ?_ | refine mo_or_lt ?_ ?_ | refine mo_and_lt ?_ | decide) (by repeat' first | assumption | exact mo_add_lt _ _ | exact mo_sub_lt _ _ | exact mo_mul_lt _ _ | exact mo_shl_lt _ _ | exact mo_ushr_lt _ _ | exact mo_rd_lt _ _ | exact mr_t_lt _ _ | refine mo_xor_lt ?_ ?_ | refine mo_or_lt ?_ ?_ | refine mo_and_lt ?_ | decide)) hfr hlo ?_
  refine sy_ildn cd104_139 rfl rfl ?_
  refine sy_bipush (v := 19) cd104_140 (by decide) (by decide) ?_
  refine sy_call2 cd104_142 mrc_turn rfl (mr_tok (by repeat' first | assumption | exact mo_add_lt _ _ | exact mo_sub_lt _ _ | exact mo_mul_lt _ _ | exact mo_shl_lt _ _ | exact mo_ushr_lt _ _ | exact mo_rd_lt _ _ | exact mr_t_lt _ _ | refine mo_xor_lt ?_ ?_ | refine mo_or_lt ?_ ?_ | refine mo_and_lt ?_ | decide) (by repeat' first | assumption | exact mo_add_lt _ _ | exact mo_sub_lt _ _ | exact mo_mul_lt _ _ | exact mo_shl_lt _ _ | exact mo_ushr_lt _ _ | exact mo_rd_lt _ _ | exact mr_t_lt _ _ | refine mo_xor_lt ?_ ?_ | refine mo_or_lt ?_ ?_ | refine mo_and_lt ?_ | decide)) (mr_turn (by repeat' first | assumption | exact mo_add_lt _ _ | exact mo_sub_lt _ _ | exact mo_mul_lt _ _ | exact mo_shl_lt _ _ | exact mo_ushr_lt _ _ | exact mo_rd_lt _ _ | exact mr_t_lt _ _ | refine mo_xor_lt ?_ ?_ | refine mo_or_lt ?_ ?_ | refine mo_and_lt ?_ | decide) (by repeat' first | assumption | exact mo_add_lt _ _ | exact mo_sub_lt _ _ | exact mo_mul_lt _ _ | exact mo_shl_lt _ _ | exact mo_ushr_lt _ _ | exact mo_rd_lt _ _ | exact mr_t_lt _ _ | refine mo_xor_lt ?_ ?_ | refine mo_or_lt ?_ ?_ | refine mo_and_lt ?_ | decide)) hfr hlo ?_
  refine sy_ixor cd104_145 ?_
  refine sy_ildn cd104_146 rfl rfl ?_
  refine sy_bipush (v := 10) cd104_147 (by decide) (by decide) ?_
  refine sy_iushr cd104_149 ?_
  refine sy_ixor cd104_150 ?_
  refine sy_ist cd104_151 rfl (sy_ok0 (by repeat' first | assumption | exact mo_add_lt _ _ | exact mo_sub_lt _ _ | exact mo_mul_lt _ _ | exact mo_shl_lt _ _ | exact mo_ushr_lt _ _ | exact mo_rd_lt _ _ | exact mr_t_lt _ _ | refine mo_xor_lt ?_ ?_ | refine mo_or_lt ?_ ?_ | refine mo_and_lt ?_ | decide)) (by rw [mL104]; rfl) rfl ?_
  simp only [List.set_cons_zero, List.set_cons_succ]
  refine sy_aldn cd104_153 rfl rfl ?_
  refine sy_gf cd104_154 mrf_schedule rfl (mr_g0 H) rfl H.2.2.2.2.2.2.2.2.1 ?_
  refine sy_ildn cd104_157 rfl rfl ?_
  refine sy_aldn cd104_158 rfl rfl ?_
  refine sy_gf cd104_159 mrf_schedule rfl (mr_g0 H) rfl H.2.2.2.2.2.2.2.2.1 ?_
  refine sy_ildn cd104_162 rfl rfl ?_
  refine sy_bipush (v := 16) cd104_163 (by decide) (by decide) ?_
  refine sy_isub cd104_165 ?_
  refine sy_ial (i := 16 + m - 16) cd104_166 (mr_gq H) (by unfold mo_sub; omega) (by omega) (by decide) ?_
  refine sy_ild cd104_167 rfl rfl ?_
  refine sy_iadd cd104_169 ?_
  refine sy_aldn cd104_170 rfl rfl ?_
  refine sy_gf cd104_171 mrf_schedule rfl (mr_g0 H) rfl H.2.2.2.2.2.2.2.2.1 ?_
  refine sy_ildn cd104_174 rfl rfl ?_
  refine sy_bipush (v := 7) cd104_175 (by decide) (by decide) ?_
  refine sy_isub cd104_177 ?_
  refine sy_ial (i := 16 + m - 7) cd104_178 (mr_gq H) (by unfold mo_sub; omega) (by omega) (by decide) ?_
  refine sy_iadd cd104_179 ?_
  refine sy_ild cd104_180 rfl rfl ?_
  refine sy_iadd cd104_182 ?_
  refine sy_ias (i := 16 + m) cd104_183 (mr_gq H) rfl (by omega) (by decide) (mr_sq H) ?_
  refine sy_iinc (c := 1) cd104_184 rfl (by decide) (by rw [mL104]; rfl) rfl ?_
  simp only [List.set_cons_zero, List.set_cons_succ]
  refine sy_goto (pc' := 89) cd104_187 (by decide) (by decide) ?_
  rw [mo_inc (by omega)]
  exact sy_weak (sy_lw_ok (by simp only [sy_lw]; simp [Nat.add_assoc]))
theorem mr_Ds (hfr : 0 + 1 ≤ fr) (hlo : 8 + (tt_mL 105 + 11) + 0 ≤ lo) (H : mr_H w p0 pp pk pq pv ps X P K) : ∀ m, m ≤ 48 → sy_R 104 n fr lo 89 [(2, p0, 0), (0, 16 + 0, 0), (255, 0, 0), (255, 0, 0), (255, 0, 0), (255, 0, 0), (255, 0, 0), (255, 0, 0), (255, 0, 0), (255, 0, 0), (255, 0, 0)] [] (mr_w w pq pv ps W V St) 89 [(2, p0, 0), (0, 16 + m, 0), (255, 0, 0), (255, 0, 0), (255, 0, 0), (255, 0, 0), (255, 0, 0), (255, 0, 0), (255, 0, 0), (255, 0, 0), (255, 0, 0)] [] (mr_w w pq pv ps (mr_W2 W m) V St)
  | 0, _ => sy_refl
  | m + 1, h => sy_trans (mr_Ds hfr hlo H m (by omega)) (mr_D (by omega) hfr hlo H)
theorem mr_E (H : mr_H w p0 pp pk pq pv ps X P K) : sy_R 104 n fr lo 89 [(2, p0, 0), (0, 16 + 48, 0), (255, 0, 0), (255, 0, 0), (255, 0, 0), (255, 0, 0), (255, 0, 0), (255, 0, 0), (255, 0, 0), (255, 0, 0), (255, 0, 0)] [] (mr_w w pq pv ps W V St) 192 [(2, p0, 0), (0, 0, 0), (255, 0, 0), (255, 0, 0), (255, 0, 0), (255, 0, 0), (255, 0, 0), (255, 0, 0), (255, 0, 0), (255, 0, 0), (255, 0, 0)] [] (mr_w w pq pv ps W V St) := by
  refine sy_ildn cd104_89 rfl rfl ?_
  refine sy_bipush (v := 64) cd104_90 (by decide) (by decide) ?_
  refine sy_ge_t (pc' := 190) cd104_92 (by decide) (by decide) (by decide) (by decide) ?_
  refine sy_iconst (v := 0) cd104_190 (by decide) ?_
  refine sy_istn (j := 1) cd104_191 rfl rfl (sy_ok0 (by repeat' first | assumption | exact mo_add_lt _ _ | exact mo_sub_lt _ _ | exact mo_mul_lt _ _ | exact mo_shl_lt _ _ | exact mo_ushr_lt _ _ | exact mo_rd_lt _ _ | exact mr_t_lt _ _ | refine mo_xor_lt ?_ ?_ | refine mo_or_lt ?_ ?_ | refine mo_and_lt ?_ | decide)) (by rw [mL104]; rfl) rfl ?_
  simp only [List.set_cons_zero, List.set_cons_succ]
  exact sy_refl
theorem mr_F {i : Nat} (hi : i < 8) (H : mr_H w p0 pp pk pq pv ps X P K) : sy_R 104 n fr lo 192 [(2, p0, 0), (0, i, 0), (255, 0, 0), (255, 0, 0), (255, 0, 0), (255, 0, 0), (255, 0, 0), (255, 0, 0), (255, 0, 0), (255, 0, 0), (255, 0, 0)] [] (mr_w w pq pv ps W V St) 192 [(2, p0, 0), (0, i + 1, 0), (255, 0, 0), (255, 0, 0), (255, 0, 0), (255, 0, 0), (255, 0, 0), (255, 0, 0), (255, 0, 0), (255, 0, 0), (255, 0, 0)] [] (mr_w w pq pv ps W (mv_wr 32 V i (mv_rd 32 St i)) St) := by
  refine sy_ildn cd104_192 rfl rfl ?_
  refine sy_bipush (v := 8) cd104_193 (by decide) (by decide) ?_
  refine sy_ge_f cd104_195 (by decide) hi (by decide) ?_
  refine sy_aldn cd104_198 rfl rfl ?_
  refine sy_gf cd104_199 mrf_v8 rfl (mr_g0 H) rfl H.2.2.2.2.2.2.2.2.2.2.1 ?_
  refine sy_ildn cd104_202 rfl rfl ?_
  refine sy_aldn cd104_203 rfl rfl ?_
  refine sy_gf cd104_204 mrf_state rfl (mr_g0 H) rfl H.2.2.2.2.2.2.2.2.2.2.2.1 ?_
  refine sy_ildn cd104_207 rfl rfl ?_
  refine sy_ial (i := i) cd104_208 (mr_gs H) rfl hi (by decide) ?_
  refine sy_ias (i := i) cd104_209 (mr_gv H) rfl hi (by decide) (mr_sv H) ?_
  refine sy_iinc (c := 1) cd104_210 rfl (by decide) (by rw [mL104]; rfl) rfl ?_
  simp only [List.set_cons_zero, List.set_cons_succ]
  refine sy_goto (pc' := 192) cd104_213 (by decide) (by decide) ?_
  rw [mo_inc (by omega)]
  exact sy_refl
theorem mr_Fs (H : mr_H w p0 pp pk pq pv ps X P K) : ∀ m, m ≤ 8 → sy_R 104 n fr lo 192 [(2, p0, 0), (0, 0, 0), (255, 0, 0), (255, 0, 0), (255, 0, 0), (255, 0, 0), (255, 0, 0), (255, 0, 0), (255, 0, 0), (255, 0, 0), (255, 0, 0)] [] (mr_w w pq pv ps W V St) 192 [(2, p0, 0), (0, m, 0), (255, 0, 0), (255, 0, 0), (255, 0, 0), (255, 0, 0), (255, 0, 0), (255, 0, 0), (255, 0, 0), (255, 0, 0), (255, 0, 0)] [] (mr_w w pq pv ps W (mr_V1 St V m) St)
  | 0, _ => sy_refl
  | m + 1, h => sy_trans (mr_Fs H m (by omega)) (mr_F (by omega) H)
theorem mr_G (H : mr_H w p0 pp pk pq pv ps X P K) : sy_R 104 n fr lo 192 [(2, p0, 0), (0, 8, 0), (255, 0, 0), (255, 0, 0), (255, 0, 0), (255, 0, 0), (255, 0, 0), (255, 0, 0), (255, 0, 0), (255, 0, 0), (255, 0, 0)] [] (mr_w w pq pv ps W V St) 218 [(2, p0, 0), (0, 0, 0), (255, 0, 0), (255, 0, 0), (255, 0, 0), (255, 0, 0), (255, 0, 0), (255, 0, 0), (255, 0, 0), (255, 0, 0), (255, 0, 0)] [] (mr_w w pq pv ps W V St) := by
  refine sy_ildn cd104_192 rfl rfl ?_
  refine sy_bipush (v := 8) cd104_193 (by decide) (by decide) ?_
  refine sy_ge_t (pc' := 216) cd104_195 (by decide) (Nat.le_refl 8) (by decide) (by decide) ?_
  refine sy_iconst (v := 0) cd104_216 (by decide) ?_
  refine sy_istn (j := 1) cd104_217 rfl rfl (sy_ok0 (by repeat' first | assumption | exact mo_add_lt _ _ | exact mo_sub_lt _ _ | exact mo_mul_lt _ _ | exact mo_shl_lt _ _ | exact mo_ushr_lt _ _ | exact mo_rd_lt _ _ | exact mr_t_lt _ _ | refine mo_xor_lt ?_ ?_ | refine mo_or_lt ?_ ?_ | refine mo_and_lt ?_ | decide)) (by rw [mL104]; rfl) rfl ?_
  simp only [List.set_cons_zero, List.set_cons_succ]
  exact sy_refl
theorem mr_I {i : Nat} (hi : i < 64) (hfr : 0 + 1 ≤ fr) (hlo : 8 + (tt_mL 105 + 11) + 0 ≤ lo) (H : mr_H w p0 pp pk pq pv ps X P K) : sy_R 104 n fr lo 218 [(2, p0, 0), (0, i, 0), (255, 0, 0), (255, 0, 0), (255, 0, 0), (255, 0, 0), (255, 0, 0), (255, 0, 0), (255, 0, 0), (255, 0, 0), (255, 0, 0)] [] (mr_w w pq pv ps W V St) 376 [(2, p0, 0), (0, i, 0), (255, 0, 0), (255, 0, 0), (255, 0, 0), (255, 0, 0), (0, mr_one V (mv_rd 32 K i) (mv_rd 32 W i), 0), (255, 0, 0), (255, 0, 0), (0, mr_two V, 0), (0, 7 - 0, 0)] [] (mr_w w pq pv ps W V St) := by
  refine sy_ildn cd104_218 rfl rfl ?_
  refine sy_bipush (v := 64) cd104_219 (by decide) (by decide) ?_
  refine sy_ge_f cd104_221 (by decide) hi (by decide) ?_
  refine sy_aldn cd104_224 rfl rfl ?_
  refine sy_gf cd104_225 mrf_v8 rfl (mr_g0 H) rfl H.2.2.2.2.2.2.2.2.2.2.1 ?_
  refine sy_iconst (v := 4) cd104_228 (by decide) ?_
  refine sy_ial (i := 4) cd104_229 (mr_gv H) rfl (by decide) (by decide) ?_
  refine sy_istn (j := 2) cd104_230 rfl rfl (sy_ok0 (by repeat' first | assumption | exact mo_add_lt _ _ | exact mo_sub_lt _ _ | exact mo_mul_lt _ _ | exact mo_shl_lt _ _ | exact mo_ushr_lt _ _ | exact mo_rd_lt _ _ | exact mr_t_lt _ _ | refine mo_xor_lt ?_ ?_ | refine mo_or_lt ?_ ?_ | refine mo_and_lt ?_ | decide)) (by rw [mL104]; rfl) rfl ?_
  simp only [List.set_cons_zero, List.set_cons_succ]
  refine sy_aldn cd104_231 rfl rfl ?_
  refine sy_gf cd104_232 mrf_v8 rfl (mr_g0 H) rfl H.2.2.2.2.2.2.2.2.2.2.1 ?_
  refine sy_iconst (v := 0) cd104_235 (by decide) ?_
  refine sy_ial (i := 0) cd104_236 (mr_gv H) rfl (by decide) (by decide) ?_
  refine sy_istn (j := 3) cd104_237 rfl rfl (sy_ok0 (by repeat' first | assumption | exact mo_add_lt _ _ | exact mo_sub_lt _ _ | exact mo_mul_lt _ _ | exact mo_shl_lt _ _ | exact mo_ushr_lt _ _ | exact mo_rd_lt _ _ | exact mr_t_lt _ _ | refine mo_xor_lt ?_ ?_ | refine mo_or_lt ?_ ?_ | refine mo_and_lt ?_ | decide)) (by rw [mL104]; rfl) rfl ?_
  simp only [List.set_cons_zero, List.set_cons_succ]
  refine sy_ildn cd104_238 rfl rfl ?_
  refine sy_bipush (v := 6) cd104_239 (by decide) (by decide) ?_
  refine sy_call2 cd104_241 mrc_turn rfl (mr_tok (by repeat' first | assumption | exact mo_add_lt _ _ | exact mo_sub_lt _ _ | exact mo_mul_lt _ _ | exact mo_shl_lt _ _ | exact mo_ushr_lt _ _ | exact mo_rd_lt _ _ | exact mr_t_lt _ _ | refine mo_xor_lt ?_ ?_ | refine mo_or_lt ?_ ?_ | refine mo_and_lt ?_ | decide) (by repeat' first | assumption | exact mo_add_lt _ _ | exact mo_sub_lt _ _ | exact mo_mul_lt _ _ | exact mo_shl_lt _ _ | exact mo_ushr_lt _ _ | exact mo_rd_lt _ _ | exact mr_t_lt _ _ | refine mo_xor_lt ?_ ?_ | refine mo_or_lt ?_ ?_ | refine mo_and_lt ?_ | decide)) (mr_turn (by repeat' first | assumption | exact mo_add_lt _ _ | exact mo_sub_lt _ _ | exact mo_mul_lt _ _ | exact mo_shl_lt _ _ | exact mo_ushr_lt _ _ | exact mo_rd_lt _ _ | exact mr_t_lt _ _ | refine mo_xor_lt ?_ ?_ | refine mo_or_lt ?_ ?_ | refine mo_and_lt ?_ | decide) (by repeat' first | assumption | exact mo_add_lt _ _ | exact mo_sub_lt _ _ | exact mo_mul_lt _ _ | exact mo_shl_lt _ _ | exact mo_ushr_lt _ _ | exact mo_rd_lt _ _ | exact mr_t_lt _ _ | refine mo_xor_lt ?_ ?_ | refine mo_or_lt ?_ ?_ | refine mo_and_lt ?_ | decide)) hfr hlo ?_
  refine sy_ildn cd104_244 rfl rfl ?_
  refine sy_bipush (v := 11) cd104_245 (by decide) (by decide) ?_
  refine sy_call2 cd104_247 mrc_turn rfl (mr_tok (by repeat' first | assumption | exact mo_add_lt _ _ | exact mo_sub_lt _ _ | exact mo_mul_lt _ _ | exact mo_shl_lt _ _ | exact mo_ushr_lt _ _ | exact mo_rd_lt _ _ | exact mr_t_lt _ _ | refine mo_xor_lt ?_ ?_ | refine mo_or_lt ?_ ?_ | refine mo_and_lt ?_ | decide) (by repeat' first | assumption | exact mo_add_lt _ _ | exact mo_sub_lt _ _ | exact mo_mul_lt _ _ | exact mo_shl_lt _ _ | exact mo_ushr_lt _ _ | exact mo_rd_lt _ _ | exact mr_t_lt _ _ | refine mo_xor_lt ?_ ?_ | refine mo_or_lt ?_ ?_ | refine mo_and_lt ?_ | decide)) (mr_turn (by repeat' first | assumption | exact mo_add_lt _ _ | exact mo_sub_lt _ _ | exact mo_mul_lt _ _ | exact mo_shl_lt _ _ | exact mo_ushr_lt _ _ | exact mo_rd_lt _ _ | exact mr_t_lt _ _ | refine mo_xor_lt ?_ ?_ | refine mo_or_lt ?_ ?_ | refine mo_and_lt ?_ | decide) (by repeat' first | assumption | exact mo_add_lt _ _ | exact mo_sub_lt _ _ | exact mo_mul_lt _ _ | exact mo_shl_lt _ _ | exact mo_ushr_lt _ _ | exact mo_rd_lt _ _ | exact mr_t_lt _ _ | refine mo_xor_lt ?_ ?_ | refine mo_or_lt ?_ ?_ | refine mo_and_lt ?_ | decide)) hfr hlo ?_
  refine sy_ixor cd104_250 ?_
  refine sy_ildn cd104_251 rfl rfl ?_
  refine sy_bipush (v := 25) cd104_252 (by decide) (by decide) ?_
  refine sy_call2 cd104_254 mrc_turn rfl (mr_tok (by repeat' first | assumption | exact mo_add_lt _ _ | exact mo_sub_lt _ _ | exact mo_mul_lt _ _ | exact mo_shl_lt _ _ | exact mo_ushr_lt _ _ | exact mo_rd_lt _ _ | exact mr_t_lt _ _ | refine mo_xor_lt ?_ ?_ | refine mo_or_lt ?_ ?_ | refine mo_and_lt ?_ | decide) (by repeat' first | assumption | exact mo_add_lt _ _ | exact mo_sub_lt _ _ | exact mo_mul_lt _ _ | exact mo_shl_lt _ _ | exact mo_ushr_lt _ _ | exact mo_rd_lt _ _ | exact mr_t_lt _ _ | refine mo_xor_lt ?_ ?_ | refine mo_or_lt ?_ ?_ | refine mo_and_lt ?_ | decide)) (mr_turn (by repeat' first | assumption | exact mo_add_lt _ _ | exact mo_sub_lt _ _ | exact mo_mul_lt _ _ | exact mo_shl_lt _ _ | exact mo_ushr_lt _ _ | exact mo_rd_lt _ _ | exact mr_t_lt _ _ | refine mo_xor_lt ?_ ?_ | refine mo_or_lt ?_ ?_ | refine mo_and_lt ?_ | decide) (by repeat' first | assumption | exact mo_add_lt _ _ | exact mo_sub_lt _ _ | exact mo_mul_lt _ _ | exact mo_shl_lt _ _ | exact mo_ushr_lt _ _ | exact mo_rd_lt _ _ | exact mr_t_lt _ _ | refine mo_xor_lt ?_ ?_ | refine mo_or_lt ?_ ?_ | refine mo_and_lt ?_ | decide)) hfr hlo ?_
  refine sy_ixor cd104_257 ?_
  refine sy_ist cd104_258 rfl (sy_ok0 (by repeat' first | assumption | exact mo_add_lt _ _ | exact mo_sub_lt _ _ | exact mo_mul_lt _ _ | exact mo_shl_lt _ _ | exact mo_ushr_lt _ _ | exact mo_rd_lt _ _ | exact mr_t_lt _ _ | refine mo_xor_lt ?_ ?_ | refine mo_or_lt ?_ ?_ | refine mo_and_lt ?_ | decide)) (by rw [mL104]; rfl) rfl ?_
  simp only [List.set_cons_zero, List.set_cons_succ]
  refine sy_ildn cd104_260 rfl rfl ?_
  refine sy_aldn cd104_261 rfl rfl ?_
  refine sy_gf cd104_262 mrf_v8 rfl (mr_g0 H) rfl H.2.2.2.2.2.2.2.2.2.2.1 ?_
  refine sy_iconst (v := 5) cd104_265 (by decide) ?_
  refine sy_ial (i := 5) cd104_266 (mr_gv H) rfl (by decide) (by decide) ?_
  refine sy_iand cd104_267 ?_
  refine sy_ildn cd104_268 rfl rfl ?_
  refine sy_iconst (v := 4294967295) cd104_269 (by decide) ?_
  refine sy_ixor cd104_270 ?_
  refine sy_aldn cd104_271 rfl rfl ?_
  refine sy_gf cd104_272 mrf_v8 rfl (mr_g0 H) rfl H.2.2.2.2.2.2.2.2.2.2.1 ?_
  refine sy_bipush (v := 6) cd104_275 (by decide) (by decide) ?_
  refine sy_ial (i := 6) cd104_277 (mr_gv H) rfl (by decide) (by decide) ?_
  refine sy_iand cd104_278 ?_
  refine sy_ixor cd104_279 ?_
  refine sy_ist cd104_280 rfl (sy_ok0 (by repeat' first | assumption | exact mo_add_lt _ _ | exact mo_sub_lt _ _ | exact mo_mul_lt _ _ | exact mo_shl_lt _ _ | exact mo_ushr_lt _ _ | exact mo_rd_lt _ _ | exact mr_t_lt _ _ | refine mo_xor_lt ?_ ?_ | refine mo_or_lt ?_ ?_ | refine mo_and_lt ?_ | decide)) (by rw [mL104]; rfl) rfl ?_
  simp only [List.set_cons_zero, List.set_cons_succ]
  refine sy_aldn cd104_282 rfl rfl ?_
  refine sy_gf cd104_283 mrf_v8 rfl (mr_g0 H) rfl H.2.2.2.2.2.2.2.2.2.2.1 ?_
  refine sy_bipush (v := 7) cd104_286 (by decide) (by decide) ?_
  refine sy_ial (i := 7) cd104_288 (mr_gv H) rfl (by decide) (by decide) ?_
  refine sy_ild cd104_289 rfl rfl ?_
  refine sy_iadd cd104_291 ?_
  refine sy_ild cd104_292 rfl rfl ?_
  refine sy_iadd cd104_294 ?_
  refine sy_aldn cd104_295 rfl rfl ?_
  refine sy_gf cd104_296 mrf_roundNumber rfl (mr_g0 H) rfl H.2.2.2.2.2.2.2.2.2.2.2.2 ?_
  refine sy_ildn cd104_299 rfl rfl ?_
  refine sy_ial (i := i) cd104_300 (mr_gk H) rfl hi (by decide) ?_
  refine sy_iadd cd104_301 ?_
  refine sy_aldn cd104_302 rfl rfl ?_
  refine sy_gf cd104_303 mrf_schedule rfl (mr_g0 H) rfl H.2.2.2.2.2.2.2.2.1 ?_
  refine sy_ildn cd104_306 rfl rfl ?_
  refine sy_ial (i := i) cd104_307 (mr_gq H) rfl hi (by decide) ?_
  refine sy_iadd cd104_308 ?_
  refine sy_ist cd104_309 rfl (sy_ok0 (by repeat' first | assumption | exact mo_add_lt _ _ | exact mo_sub_lt _ _ | exact mo_mul_lt _ _ | exact mo_shl_lt _ _ | exact mo_ushr_lt _ _ | exact mo_rd_lt _ _ | exact mr_t_lt _ _ | refine mo_xor_lt ?_ ?_ | refine mo_or_lt ?_ ?_ | refine mo_and_lt ?_ | decide)) (by rw [mL104]; rfl) rfl ?_
  simp only [List.set_cons_zero, List.set_cons_succ]
  refine sy_ildn cd104_311 rfl rfl ?_
  refine sy_iconst (v := 2) cd104_312 (by decide) ?_
  refine sy_call2 cd104_313 mrc_turn rfl (mr_tok (by repeat' first | assumption | exact mo_add_lt _ _ | exact mo_sub_lt _ _ | exact mo_mul_lt _ _ | exact mo_shl_lt _ _ | exact mo_ushr_lt _ _ | exact mo_rd_lt _ _ | exact mr_t_lt _ _ | refine mo_xor_lt ?_ ?_ | refine mo_or_lt ?_ ?_ | refine mo_and_lt ?_ | decide) (by repeat' first | assumption | exact mo_add_lt _ _ | exact mo_sub_lt _ _ | exact mo_mul_lt _ _ | exact mo_shl_lt _ _ | exact mo_ushr_lt _ _ | exact mo_rd_lt _ _ | exact mr_t_lt _ _ | refine mo_xor_lt ?_ ?_ | refine mo_or_lt ?_ ?_ | refine mo_and_lt ?_ | decide)) (mr_turn (by repeat' first | assumption | exact mo_add_lt _ _ | exact mo_sub_lt _ _ | exact mo_mul_lt _ _ | exact mo_shl_lt _ _ | exact mo_ushr_lt _ _ | exact mo_rd_lt _ _ | exact mr_t_lt _ _ | refine mo_xor_lt ?_ ?_ | refine mo_or_lt ?_ ?_ | refine mo_and_lt ?_ | decide) (by repeat' first | assumption | exact mo_add_lt _ _ | exact mo_sub_lt _ _ | exact mo_mul_lt _ _ | exact mo_shl_lt _ _ | exact mo_ushr_lt _ _ | exact mo_rd_lt _ _ | exact mr_t_lt _ _ | refine mo_xor_lt ?_ ?_ | refine mo_or_lt ?_ ?_ | refine mo_and_lt ?_ | decide)) hfr hlo ?_
  refine sy_ildn cd104_316 rfl rfl ?_
  refine sy_bipush (v := 13) cd104_317 (by decide) (by decide) ?_
  refine sy_call2 cd104_319 mrc_turn rfl (mr_tok (by repeat' first | assumption | exact mo_add_lt _ _ | exact mo_sub_lt _ _ | exact mo_mul_lt _ _ | exact mo_shl_lt _ _ | exact mo_ushr_lt _ _ | exact mo_rd_lt _ _ | exact mr_t_lt _ _ | refine mo_xor_lt ?_ ?_ | refine mo_or_lt ?_ ?_ | refine mo_and_lt ?_ | decide) (by repeat' first | assumption | exact mo_add_lt _ _ | exact mo_sub_lt _ _ | exact mo_mul_lt _ _ | exact mo_shl_lt _ _ | exact mo_ushr_lt _ _ | exact mo_rd_lt _ _ | exact mr_t_lt _ _ | refine mo_xor_lt ?_ ?_ | refine mo_or_lt ?_ ?_ | refine mo_and_lt ?_ | decide)) (mr_turn (by repeat' first | assumption | exact mo_add_lt _ _ | exact mo_sub_lt _ _ | exact mo_mul_lt _ _ | exact mo_shl_lt _ _ | exact mo_ushr_lt _ _ | exact mo_rd_lt _ _ | exact mr_t_lt _ _ | refine mo_xor_lt ?_ ?_ | refine mo_or_lt ?_ ?_ | refine mo_and_lt ?_ | decide) (by repeat' first | assumption | exact mo_add_lt _ _ | exact mo_sub_lt _ _ | exact mo_mul_lt _ _ | exact mo_shl_lt _ _ | exact mo_ushr_lt _ _ | exact mo_rd_lt _ _ | exact mr_t_lt _ _ | refine mo_xor_lt ?_ ?_ | refine mo_or_lt ?_ ?_ | refine mo_and_lt ?_ | decide)) hfr hlo ?_
  refine sy_ixor cd104_322 ?_
  refine sy_ildn cd104_323 rfl rfl ?_
  refine sy_bipush (v := 22) cd104_324 (by decide) (by decide) ?_
  refine sy_call2 cd104_326 mrc_turn rfl (mr_tok (by repeat' first | assumption | exact mo_add_lt _ _ | exact mo_sub_lt _ _ | exact mo_mul_lt _ _ | exact mo_shl_lt _ _ | exact mo_ushr_lt _ _ | exact mo_rd_lt _ _ | exact mr_t_lt _ _ | refine mo_xor_lt ?_ ?_ | refine mo_or_lt ?_ ?_ | refine mo_and_lt ?_ | decide) (by repeat' first | assumption | exact mo_add_lt _ _ | exact mo_sub_lt _ _ | exact mo_mul_lt _ _ | exact mo_shl_lt _ _ | exact mo_ushr_lt _ _ | exact mo_rd_lt _ _ | exact mr_t_lt _ _ | refine mo_xor_lt ?_ ?_ | refine mo_or_lt ?_ ?_ | refine mo_and_lt ?_ | decide)) (mr_turn (by repeat' first | assumption | exact mo_add_lt _ _ | exact mo_sub_lt _ _ | exact mo_mul_lt _ _ | exact mo_shl_lt _ _ | exact mo_ushr_lt _ _ | exact mo_rd_lt _ _ | exact mr_t_lt _ _ | refine mo_xor_lt ?_ ?_ | refine mo_or_lt ?_ ?_ | refine mo_and_lt ?_ | decide) (by repeat' first | assumption | exact mo_add_lt _ _ | exact mo_sub_lt _ _ | exact mo_mul_lt _ _ | exact mo_shl_lt _ _ | exact mo_ushr_lt _ _ | exact mo_rd_lt _ _ | exact mr_t_lt _ _ | refine mo_xor_lt ?_ ?_ | refine mo_or_lt ?_ ?_ | refine mo_and_lt ?_ | decide)) hfr hlo ?_
  refine sy_ixor cd104_329 ?_
  refine sy_ist cd104_330 rfl (sy_ok0 (by repeat' first | assumption | exact mo_add_lt _ _ | exact mo_sub_lt _ _ | exact mo_mul_lt _ _ | exact mo_shl_lt _ _ | exact mo_ushr_lt _ _ | exact mo_rd_lt _ _ | exact mr_t_lt _ _ | refine mo_xor_lt ?_ ?_ | refine mo_or_lt ?_ ?_ | refine mo_and_lt ?_ | decide)) (by rw [mL104]; rfl) rfl ?_
  simp only [List.set_cons_zero, List.set_cons_succ]
  refine sy_ildn cd104_332 rfl rfl ?_
  refine sy_aldn cd104_333 rfl rfl ?_
  refine sy_gf cd104_334 mrf_v8 rfl (mr_g0 H) rfl H.2.2.2.2.2.2.2.2.2.2.1 ?_
  refine sy_iconst (v := 1) cd104_337 (by decide) ?_
  refine sy_ial (i := 1) cd104_338 (mr_gv H) rfl (by decide) (by decide) ?_
  refine sy_iand cd104_339 ?_
  refine sy_ildn cd104_340 rfl rfl ?_
  refine sy_aldn cd104_341 rfl rfl ?_
  refine sy_gf cd104_342 mrf_v8 rfl (mr_g0 H) rfl H.2.2.2.2.2.2.2.2.2.2.1 ?_
  refine sy_iconst (v := 2) cd104_345 (by decide) ?_
  refine sy_ial (i := 2) cd104_346 (mr_gv H) rfl (by decide) (by decide) ?_
  refine sy_iand cd104_347 ?_
  refine sy_ixor cd104_348 ?_
  refine sy_aldn cd104_349 rfl rfl ?_
  refine sy_gf cd104_350 mrf_v8 rfl (mr_g0 H) rfl H.2.2.2.2.2.2.2.2.2.2.1 ?_
  refine sy_iconst (v := 1) cd104_353 (by decide) ?_
  refine sy_ial (i := 1) cd104_354 (mr_gv H) rfl (by decide) (by decide) ?_
  refine sy_aldn cd104_355 rfl rfl ?_
  refine sy_gf cd104_356 mrf_v8 rfl (mr_g0 H) rfl H.2.2.2.2.2.2.2.2.2.2.1 ?_
  refine sy_iconst (v := 2) cd104_359 (by decide) ?_
  refine sy_ial (i := 2) cd104_360 (mr_gv H) rfl (by decide) (by decide) ?_
  refine sy_iand cd104_361 ?_
  refine sy_ixor cd104_362 ?_
  refine sy_ist cd104_363 rfl (sy_ok0 (by repeat' first | assumption | exact mo_add_lt _ _ | exact mo_sub_lt _ _ | exact mo_mul_lt _ _ | exact mo_shl_lt _ _ | exact mo_ushr_lt _ _ | exact mo_rd_lt _ _ | exact mr_t_lt _ _ | refine mo_xor_lt ?_ ?_ | refine mo_or_lt ?_ ?_ | refine mo_and_lt ?_ | decide)) (by rw [mL104]; rfl) rfl ?_
  simp only [List.set_cons_zero, List.set_cons_succ]
  refine sy_ild cd104_365 rfl rfl ?_
  refine sy_ild cd104_367 rfl rfl ?_
  refine sy_iadd cd104_369 ?_
  refine sy_ist cd104_370 rfl (sy_ok0 (by repeat' first | assumption | exact mo_add_lt _ _ | exact mo_sub_lt _ _ | exact mo_mul_lt _ _ | exact mo_shl_lt _ _ | exact mo_ushr_lt _ _ | exact mo_rd_lt _ _ | exact mr_t_lt _ _ | refine mo_xor_lt ?_ ?_ | refine mo_or_lt ?_ ?_ | refine mo_and_lt ?_ | decide)) (by rw [mL104]; rfl) rfl ?_
  simp only [List.set_cons_zero, List.set_cons_succ]
  refine sy_bipush (v := 7) cd104_372 (by decide) (by decide) ?_
  refine sy_ist cd104_374 rfl (sy_ok0 (by repeat' first | assumption | exact mo_add_lt _ _ | exact mo_sub_lt _ _ | exact mo_mul_lt _ _ | exact mo_shl_lt _ _ | exact mo_ushr_lt _ _ | exact mo_rd_lt _ _ | exact mr_t_lt _ _ | refine mo_xor_lt ?_ ?_ | refine mo_or_lt ?_ ?_ | refine mo_and_lt ?_ | decide)) (by rw [mL104]; rfl) rfl ?_
  simp only [List.set_cons_zero, List.set_cons_succ]
  exact sy_weak (sy_lw_ok (by simp only [sy_lw]; simp [mr_one, mr_two]))
theorem mr_J {i o1 o2 m : Nat} (hm : m < 7) (H : mr_H w p0 pp pk pq pv ps X P K) : sy_R 104 n fr lo 376 [(2, p0, 0), (0, i, 0), (255, 0, 0), (255, 0, 0), (255, 0, 0), (255, 0, 0), (0, o1, 0), (255, 0, 0), (255, 0, 0), (0, o2, 0), (0, 7 - m, 0)] [] (mr_w w pq pv ps W V St) 376 [(2, p0, 0), (0, i, 0), (255, 0, 0), (255, 0, 0), (255, 0, 0), (255, 0, 0), (0, o1, 0), (255, 0, 0), (255, 0, 0), (0, o2, 0), (0, 7 - (m + 1), 0)] [] (mr_w w pq pv ps W (mv_wr 32 V (7 - m) (mv_rd 32 V (6 - m))) St) := by
  refine sy_ild cd104_376 rfl rfl ?_
  refine sy_le_f cd104_378 (by decide) (by omega) (by omega) ?_
  refine sy_aldn cd104_381 rfl rfl ?_
  refine sy_gf cd104_382 mrf_v8 rfl (mr_g0 H) rfl H.2.2.2.2.2.2.2.2.2.2.1 ?_
  refine sy_ild cd104_385 rfl rfl ?_
  refine sy_aldn cd104_387 rfl rfl ?_
  refine sy_gf cd104_388 mrf_v8 rfl (mr_g0 H) rfl H.2.2.2.2.2.2.2.2.2.2.1 ?_
  refine sy_ild cd104_391 rfl rfl ?_
  refine sy_iconst (v := 1) cd104_393 (by decide) ?_
  refine sy_isub cd104_394 ?_
  refine sy_ial (i := 6 - m) cd104_395 (mr_gv H) (by unfold mo_sub; omega) (by omega) (by decide) ?_
  refine sy_ias (i := 7 - m) cd104_396 (mr_gv H) rfl (by omega) (by decide) (mr_sv H) ?_
  refine sy_iinc (c := 4294967295) cd104_397 rfl (by decide) (by rw [mL104]; rfl) rfl ?_
  simp only [List.set_cons_zero, List.set_cons_succ]
  refine sy_goto (pc' := 376) cd104_400 (by decide) (by decide) ?_
  rw [show mo_add (7 - m) 4294967295 = 7 - (m + 1) by unfold mo_add; omega]
  exact sy_refl
theorem mr_Js {i o1 o2 : Nat} (H : mr_H w p0 pp pk pq pv ps X P K) : ∀ m, m ≤ 7 → sy_R 104 n fr lo 376 [(2, p0, 0), (0, i, 0), (255, 0, 0), (255, 0, 0), (255, 0, 0), (255, 0, 0), (0, o1, 0), (255, 0, 0), (255, 0, 0), (0, o2, 0), (0, 7 - 0, 0)] [] (mr_w w pq pv ps W V St) 376 [(2, p0, 0), (0, i, 0), (255, 0, 0), (255, 0, 0), (255, 0, 0), (255, 0, 0), (0, o1, 0), (255, 0, 0), (255, 0, 0), (0, o2, 0), (0, 7 - m, 0)] [] (mr_w w pq pv ps W (mr_sh V m) St)
  | 0, _ => sy_refl
  | m + 1, h => sy_trans (mr_Js H m (by omega)) (mr_J (by omega) H)
theorem mr_L {i o1 o2 : Nat} (hi : i < 64) (H : mr_H w p0 pp pk pq pv ps X P K) : sy_R 104 n fr lo 376 [(2, p0, 0), (0, i, 0), (255, 0, 0), (255, 0, 0), (255, 0, 0), (255, 0, 0), (0, o1, 0), (255, 0, 0), (255, 0, 0), (0, o2, 0), (0, 7 - 7, 0)] [] (mr_w w pq pv ps W V St) 218 [(2, p0, 0), (0, i + 1, 0), (255, 0, 0), (255, 0, 0), (255, 0, 0), (255, 0, 0), (255, 0, 0), (255, 0, 0), (255, 0, 0), (255, 0, 0), (255, 0, 0)] [] (mr_w w pq pv ps W (mv_wr 32 (mv_wr 32 V 4 (mo_add (mv_rd 32 V 4) o1)) 0 (mo_add o1 o2)) St) := by
  refine sy_ild cd104_376 rfl rfl ?_
  refine sy_le_t (pc' := 403) cd104_378 (by decide) (by decide) ?_
  refine sy_aldn cd104_403 rfl rfl ?_
  refine sy_gf cd104_404 mrf_v8 rfl (mr_g0 H) rfl H.2.2.2.2.2.2.2.2.2.2.1 ?_
  refine sy_iconst (v := 4) cd104_407 (by decide) ?_
  refine sy_aldn cd104_408 rfl rfl ?_
  refine sy_gf cd104_409 mrf_v8 rfl (mr_g0 H) rfl H.2.2.2.2.2.2.2.2.2.2.1 ?_
  refine sy_iconst (v := 4) cd104_412 (by decide) ?_
  refine sy_ial (i := 4) cd104_413 (mr_gv H) rfl (by decide) (by decide) ?_
  refine sy_ild cd104_414 rfl rfl ?_
  refine sy_iadd cd104_416 ?_
  refine sy_ias (i := 4) cd104_417 (mr_gv H) rfl (by decide) (by decide) (mr_sv H) ?_
  refine sy_aldn cd104_418 rfl rfl ?_
  refine sy_gf cd104_419 mrf_v8 rfl (mr_g0 H) rfl H.2.2.2.2.2.2.2.2.2.2.1 ?_
  refine sy_iconst (v := 0) cd104_422 (by decide) ?_
  refine sy_ild cd104_423 rfl rfl ?_
  refine sy_ild cd104_425 rfl rfl ?_
  refine sy_iadd cd104_427 ?_
  refine sy_ias (i := 0) cd104_428 (mr_gv H) rfl (by decide) (by decide) (mr_sv H) ?_
  refine sy_iinc (c := 1) cd104_429 rfl (by decide) (by rw [mL104]; rfl) rfl ?_
  simp only [List.set_cons_zero, List.set_cons_succ]
  refine sy_goto (pc' := 218) cd104_432 (by decide) (by decide) ?_
  rw [mo_inc (by omega)]
  exact sy_weak (sy_lw_ok (by simp only [sy_lw]; simp))
theorem mr_M {i : Nat} (hi : i < 64) (hfr : 0 + 1 ≤ fr) (hlo : 8 + (tt_mL 105 + 11) + 0 ≤ lo) (H : mr_H w p0 pp pk pq pv ps X P K) : sy_R 104 n fr lo 218 [(2, p0, 0), (0, i, 0), (255, 0, 0), (255, 0, 0), (255, 0, 0), (255, 0, 0), (255, 0, 0), (255, 0, 0), (255, 0, 0), (255, 0, 0), (255, 0, 0)] [] (mr_w w pq pv ps W V St) 218 [(2, p0, 0), (0, i + 1, 0), (255, 0, 0), (255, 0, 0), (255, 0, 0), (255, 0, 0), (255, 0, 0), (255, 0, 0), (255, 0, 0), (255, 0, 0), (255, 0, 0)] [] (mr_w w pq pv ps W (mr_f K W i V) St) := sy_trans (mr_I hi hfr hlo H) (sy_trans (mr_Js H 7 (Nat.le_refl 7)) (mr_L hi H))
theorem mr_Ms (hfr : 0 + 1 ≤ fr) (hlo : 8 + (tt_mL 105 + 11) + 0 ≤ lo) (H : mr_H w p0 pp pk pq pv ps X P K) : ∀ m, m ≤ 64 → sy_R 104 n fr lo 218 [(2, p0, 0), (0, 0, 0), (255, 0, 0), (255, 0, 0), (255, 0, 0), (255, 0, 0), (255, 0, 0), (255, 0, 0), (255, 0, 0), (255, 0, 0), (255, 0, 0)] [] (mr_w w pq pv ps W V St) 218 [(2, p0, 0), (0, m, 0), (255, 0, 0), (255, 0, 0), (255, 0, 0), (255, 0, 0), (255, 0, 0), (255, 0, 0), (255, 0, 0), (255, 0, 0), (255, 0, 0)] [] (mr_w w pq pv ps W (mr_R K W V m) St)
  | 0, _ => sy_refl
  | m + 1, h => sy_trans (mr_Ms hfr hlo H m (by omega)) (mr_M (by omega) hfr hlo H)
theorem mr_N (H : mr_H w p0 pp pk pq pv ps X P K) : sy_R 104 n fr lo 218 [(2, p0, 0), (0, 64, 0), (255, 0, 0), (255, 0, 0), (255, 0, 0), (255, 0, 0), (255, 0, 0), (255, 0, 0), (255, 0, 0), (255, 0, 0), (255, 0, 0)] [] (mr_w w pq pv ps W V St) 437 [(2, p0, 0), (0, 0, 0), (255, 0, 0), (255, 0, 0), (255, 0, 0), (255, 0, 0), (255, 0, 0), (255, 0, 0), (255, 0, 0), (255, 0, 0), (255, 0, 0)] [] (mr_w w pq pv ps W V St) := by
  refine sy_ildn cd104_218 rfl rfl ?_
  refine sy_bipush (v := 64) cd104_219 (by decide) (by decide) ?_
  refine sy_ge_t (pc' := 435) cd104_221 (by decide) (Nat.le_refl 64) (by decide) (by decide) ?_
  refine sy_iconst (v := 0) cd104_435 (by decide) ?_
  refine sy_istn (j := 1) cd104_436 rfl rfl (sy_ok0 (by repeat' first | assumption | exact mo_add_lt _ _ | exact mo_sub_lt _ _ | exact mo_mul_lt _ _ | exact mo_shl_lt _ _ | exact mo_ushr_lt _ _ | exact mo_rd_lt _ _ | exact mr_t_lt _ _ | refine mo_xor_lt ?_ ?_ | refine mo_or_lt ?_ ?_ | refine mo_and_lt ?_ | decide)) (by rw [mL104]; rfl) rfl ?_
  simp only [List.set_cons_zero, List.set_cons_succ]
  exact sy_refl
theorem mr_O {i : Nat} (hi : i < 8) (H : mr_H w p0 pp pk pq pv ps X P K) : sy_R 104 n fr lo 437 [(2, p0, 0), (0, i, 0), (255, 0, 0), (255, 0, 0), (255, 0, 0), (255, 0, 0), (255, 0, 0), (255, 0, 0), (255, 0, 0), (255, 0, 0), (255, 0, 0)] [] (mr_w w pq pv ps W V St) 437 [(2, p0, 0), (0, i + 1, 0), (255, 0, 0), (255, 0, 0), (255, 0, 0), (255, 0, 0), (255, 0, 0), (255, 0, 0), (255, 0, 0), (255, 0, 0), (255, 0, 0)] [] (mr_w w pq pv ps W V (mv_wr 32 St i (mo_add (mv_rd 32 St i) (mv_rd 32 V i)))) := by
  refine sy_ildn cd104_437 rfl rfl ?_
  refine sy_bipush (v := 8) cd104_438 (by decide) (by decide) ?_
  refine sy_ge_f cd104_440 (by decide) hi (by decide) ?_
  refine sy_aldn cd104_443 rfl rfl ?_
  refine sy_gf cd104_444 mrf_state rfl (mr_g0 H) rfl H.2.2.2.2.2.2.2.2.2.2.2.1 ?_
  refine sy_ildn cd104_447 rfl rfl ?_
  refine sy_aldn cd104_448 rfl rfl ?_
  refine sy_gf cd104_449 mrf_state rfl (mr_g0 H) rfl H.2.2.2.2.2.2.2.2.2.2.2.1 ?_
  refine sy_ildn cd104_452 rfl rfl ?_
  refine sy_ial (i := i) cd104_453 (mr_gs H) rfl hi (by decide) ?_
  refine sy_aldn cd104_454 rfl rfl ?_
  refine sy_gf cd104_455 mrf_v8 rfl (mr_g0 H) rfl H.2.2.2.2.2.2.2.2.2.2.1 ?_
  refine sy_ildn cd104_458 rfl rfl ?_
  refine sy_ial (i := i) cd104_459 (mr_gv H) rfl hi (by decide) ?_
  refine sy_iadd cd104_460 ?_
  refine sy_ias (i := i) cd104_461 (mr_gs H) rfl hi (by decide) (mr_ss H) ?_
  refine sy_iinc (c := 1) cd104_462 rfl (by decide) (by rw [mL104]; rfl) rfl ?_
  simp only [List.set_cons_zero, List.set_cons_succ]
  refine sy_goto (pc' := 437) cd104_465 (by decide) (by decide) ?_
  rw [mo_inc (by omega)]
  exact sy_refl
theorem mr_Os (H : mr_H w p0 pp pk pq pv ps X P K) : ∀ m, m ≤ 8 → sy_R 104 n fr lo 437 [(2, p0, 0), (0, 0, 0), (255, 0, 0), (255, 0, 0), (255, 0, 0), (255, 0, 0), (255, 0, 0), (255, 0, 0), (255, 0, 0), (255, 0, 0), (255, 0, 0)] [] (mr_w w pq pv ps W V St) 437 [(2, p0, 0), (0, m, 0), (255, 0, 0), (255, 0, 0), (255, 0, 0), (255, 0, 0), (255, 0, 0), (255, 0, 0), (255, 0, 0), (255, 0, 0), (255, 0, 0)] [] (mr_w w pq pv ps W V (mr_S V St m))
  | 0, _ => sy_refl
  | m + 1, h => sy_trans (mr_Os H m (by omega)) (mr_O (by omega) H)
theorem mr_P (H : mr_H w p0 pp pk pq pv ps X P K) : sy_R 104 n fr lo 437 [(2, p0, 0), (0, 8, 0), (255, 0, 0), (255, 0, 0), (255, 0, 0), (255, 0, 0), (255, 0, 0), (255, 0, 0), (255, 0, 0), (255, 0, 0), (255, 0, 0)] [] (mr_w w pq pv ps W V St) 468 [(2, p0, 0), (255, 0, 0), (255, 0, 0), (255, 0, 0), (255, 0, 0), (255, 0, 0), (255, 0, 0), (255, 0, 0), (255, 0, 0), (255, 0, 0), (255, 0, 0)] [] (mr_w w pq pv ps W V St) := by
  refine sy_ildn cd104_437 rfl rfl ?_
  refine sy_bipush (v := 8) cd104_438 (by decide) (by decide) ?_
  refine sy_ge_t (pc' := 468) cd104_440 (by decide) (Nat.le_refl 8) (by decide) (by decide) ?_
  exact sy_weak (sy_lw_ok (by simp only [sy_lw]; simp))
def mr_Wf (P W : Nat) : Nat := mr_W2 (mr_W1 P W 16) 48
def mr_Vf (K P W V St : Nat) : Nat := mr_R K (mr_Wf P W) (mr_V1 St V 8) 64
def mr_Sf (K P W V St : Nat) : Nat := mr_S (mr_Vf K P W V St) St 8
theorem mr_all (hfr : 0 + 1 ≤ fr) (hlo : 8 + (tt_mL 105 + 11) + 0 ≤ lo) (H : mr_H w p0 pp pk pq pv ps X P K) : sy_R 104 n fr lo 0 [(2, p0, 0), (255, 0, 0), (255, 0, 0), (255, 0, 0), (255, 0, 0), (255, 0, 0), (255, 0, 0), (255, 0, 0), (255, 0, 0), (255, 0, 0), (255, 0, 0)] [] (mr_w w pq pv ps W V St) 468 [(2, p0, 0), (255, 0, 0), (255, 0, 0), (255, 0, 0), (255, 0, 0), (255, 0, 0), (255, 0, 0), (255, 0, 0), (255, 0, 0), (255, 0, 0), (255, 0, 0)] [] (mr_w w pq pv ps (mr_Wf P W) (mr_Vf K P W V St) (mr_Sf K P W V St)) :=
  sy_trans (mr_A H) (sy_trans (mr_Bs H 16 (Nat.le_refl 16)) (sy_trans (mr_C H) (sy_trans (mr_Ds hfr hlo H 48 (Nat.le_refl 48)) (sy_trans (mr_E H) (sy_trans (mr_Fs H 8 (Nat.le_refl 8)) (sy_trans (mr_G H) (sy_trans (mr_Ms hfr hlo H 64 (Nat.le_refl 64)) (sy_trans (mr_N H) (sy_trans (mr_Os H 8 (Nat.le_refl 8)) (mr_P H))))))))))
end MR
