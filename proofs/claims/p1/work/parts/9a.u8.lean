/-! THE CLASS'S MINE, VIII -/
theorem xc24_0 : tt_cd 24 0 = (1, .aload_n 0, 1) := by decide +kernel
theorem xc24_1 : tt_cd 24 1 = (10, .invokevirtual 88, 3) := by decide +kernel
theorem xm24_88 : tt_ml 24 88 = (3, 25, 0) := by decide +kernel
theorem xi25 : tt_mci 25 = 8 := by decide +kernel
theorem xl25 : tt_mL 25 = 1 := by decide +kernel
theorem xc24_4 : tt_cd 24 4 = (5, .ifCond .eq 6, 3) := by decide +kernel
theorem xc24_10 : tt_cd 24 10 = (1, .aload_n 1, 1) := by decide +kernel
theorem xc24_11 : tt_cd 24 11 = (3, .getfield 91, 3) := by decide +kernel
theorem xf24_91 : tt_fl 24 91 = (2, 9, 0) := by decide +kernel
theorem xc24_14 : tt_cd 24 14 = (1, .astore_n 3, 1) := by decide +kernel
theorem xl24 : tt_mL 24 = 6 := by decide +kernel
theorem xc24_15 : tt_cd 24 15 = (1, .aload_n 1, 1) := by decide +kernel
theorem xc24_16 : tt_cd 24 16 = (3, .getfield 95, 3) := by decide +kernel
theorem xf24_95 : tt_fl 24 95 = (2, 9, 4) := by decide +kernel
theorem xc24_19 : tt_cd 24 19 = (1, .astore 4, 2) := by decide +kernel
theorem xc24_21 : tt_cd 24 21 = (1, .aload_n 3, 1) := by decide +kernel
theorem xc24_22 : tt_cd 24 22 = (5, .ifnonnull 12, 3) := by decide +kernel
theorem xc24_34 : tt_cd 24 34 = (1, .aload_n 3, 1) := by decide +kernel
theorem xc24_35 : tt_cd 24 35 = (3, .getfield 48, 3) := by decide +kernel
theorem xf24_48 : tt_fl 24 48 = (2, 9, 5) := by decide +kernel
theorem xc24_38 : tt_cd 24 38 = (2, .iconst 0, 1) := by decide +kernel
theorem xc24_39 : tt_cd 24 39 = (1, .aload 4, 2) := by decide +kernel
theorem xc24_41 : tt_cd 24 41 = (2, .iconst 0, 1) := by decide +kernel
theorem xc24_42 : tt_cd 24 42 = (4, .bipush 32, 2) := by decide +kernel
theorem xc24_44 : tt_cd 24 44 = (10, .invokestatic 98, 3) := by decide +kernel
theorem xm24_98 : tt_ml 24 98 = (8, 0, 5) := by decide +kernel
theorem xc24_47 : tt_cd 24 47 = (1, .aload_n 3, 1) := by decide +kernel
theorem xc24_48 : tt_cd 24 48 = (10, .invokevirtual 104, 3) := by decide +kernel
theorem xm24_104 : tt_ml 24 104 = (3, 26, 0) := by decide +kernel
theorem xi26 : tt_mci 26 = 9 := by decide +kernel
theorem xl26 : tt_mL 26 = 1 := by decide +kernel
theorem xc24_51 : tt_cd 24 51 = (1, .iload_n 2, 1) := by decide +kernel
theorem xc24_52 : tt_cd 24 52 = (2, .iadd, 1) := by decide +kernel
theorem xc24_53 : tt_cd 24 53 = (1, .aload 4, 2) := by decide +kernel
theorem xc24_55 : tt_cd 24 55 = (4, .bipush 96, 2) := by decide +kernel
theorem xc24_57 : tt_cd 24 57 = (10, .invokestatic 108, 3) := by decide +kernel
theorem xm24_108 : tt_ml 24 108 = (2, 11, 3) := by decide +kernel
theorem xc24_60 : tt_cd 24 60 = (1, .aload 4, 2) := by decide +kernel
theorem xc24_62 : tt_cd 24 62 = (4, .bipush 100, 2) := by decide +kernel
theorem xc24_64 : tt_cd 24 64 = (1, .aload_n 3, 1) := by decide +kernel
theorem xc24_65 : tt_cd 24 65 = (10, .invokevirtual 112, 3) := by decide +kernel
theorem xm24_112 : tt_ml 24 112 = (3, 28, 0) := by decide +kernel
theorem xi28 : tt_mci 28 = 9 := by decide +kernel
theorem xl28 : tt_mL 28 = 3 := by decide +kernel
theorem xc24_68 : tt_cd 24 68 = (2, .i2b, 1) := by decide +kernel
theorem xc24_69 : tt_cd 24 69 = (6, .bastore, 1) := by decide +kernel
theorem xc24_70 : tt_cd 24 70 = (2, .iconst 0, 1) := by decide +kernel
theorem xc24_71 : tt_cd 24 71 = (1, .istore 5, 2) := by decide +kernel
theorem xc24_73 : tt_cd 24 73 = (1, .iload 5, 2) := by decide +kernel
theorem xc24_75 : tt_cd 24 75 = (1, .aload_n 1, 1) := by decide +kernel
theorem xc24_76 : tt_cd 24 76 = (3, .getfield 81, 3) := by decide +kernel
theorem xf24_81 : tt_fl 24 81 = (2, 9, 7) := by decide +kernel
theorem xc24_79 : tt_cd 24 79 = (5, .if_icmp .ge 34, 3) := by decide +kernel
theorem xc24_82 : tt_cd 24 82 = (1, .aload_n 1, 1) := by decide +kernel
theorem xc24_83 : tt_cd 24 83 = (3, .getfield 115, 3) := by decide +kernel
theorem xf24_115 : tt_fl 24 115 = (2, 9, 6) := by decide +kernel
theorem xc24_86 : tt_cd 24 86 = (1, .iload 5, 2) := by decide +kernel
theorem xc24_88 : tt_cd 24 88 = (3, .aaload, 1) := by decide +kernel
theorem xc24_89 : tt_cd 24 89 = (3, .getfield 118, 3) := by decide +kernel
theorem xf24_118 : tt_fl 24 118 = (2, 10, 4) := by decide +kernel
theorem xc24_92 : tt_cd 24 92 = (2, .iconst 0, 1) := by decide +kernel
theorem xc24_93 : tt_cd 24 93 = (1, .aload_n 0, 1) := by decide +kernel
theorem xc24_94 : tt_cd 24 94 = (3, .getfield 23, 3) := by decide +kernel
theorem xf24_23 : tt_fl 24 23 = (1, 8, 6) := by decide +kernel
theorem xc24_97 : tt_cd 24 97 = (4, .bipush 32, 2) := by decide +kernel
theorem xc24_99 : tt_cd 24 99 = (1, .iload 5, 2) := by decide +kernel
theorem xc24_101 : tt_cd 24 101 = (2, .imul, 1) := by decide +kernel
theorem xc24_102 : tt_cd 24 102 = (4, .bipush 32, 2) := by decide +kernel
theorem xc24_104 : tt_cd 24 104 = (10, .invokestatic 98, 3) := by decide +kernel
theorem xc24_107 : tt_cd 24 107 = (1, .iinc 5 1, 3) := by decide +kernel
theorem xc24_110 : tt_cd 24 110 = (5, .goto (-37), 3) := by decide +kernel
theorem xc24_113 : tt_cd 24 113 = (1, .aload_n 0, 1) := by decide +kernel
theorem xc24_114 : tt_cd 24 114 = (3, .getfield 36, 3) := by decide +kernel
theorem xf24_36 : tt_fl 24 36 = (1, 8, 0) := by decide +kernel
theorem xc24_117 : tt_cd 24 117 = (1, .aload_n 0, 1) := by decide +kernel
theorem xc24_118 : tt_cd 24 118 = (3, .getfield 23, 3) := by decide +kernel
theorem xc24_121 : tt_cd 24 121 = (1, .aload_n 1, 1) := by decide +kernel
theorem xc24_122 : tt_cd 24 122 = (3, .getfield 81, 3) := by decide +kernel
theorem xc24_125 : tt_cd 24 125 = (10, .invokevirtual 119, 3) := by decide +kernel
theorem xm24_119 : tt_ml 24 119 = (3, 30, 2) := by decide +kernel
theorem xc24_128 : tt_cd 24 128 = (1, .aload_n 0, 1) := by decide +kernel
theorem xc24_129 : tt_cd 24 129 = (3, .getfield 23, 3) := by decide +kernel
theorem xc24_132 : tt_cd 24 132 = (2, .iconst 0, 1) := by decide +kernel
theorem xc24_133 : tt_cd 24 133 = (1, .aload 4, 2) := by decide +kernel
theorem xc24_135 : tt_cd 24 135 = (4, .bipush 32, 2) := by decide +kernel
theorem xc24_137 : tt_cd 24 137 = (4, .bipush 32, 2) := by decide +kernel
theorem xc24_139 : tt_cd 24 139 = (10, .invokestatic 98, 3) := by decide +kernel
theorem xc24_142 : tt_cd 24 142 = (1, .aload_n 0, 1) := by decide +kernel
theorem xc24_143 : tt_cd 24 143 = (1, .aload_n 1, 1) := by decide +kernel
theorem xc24_144 : tt_cd 24 144 = (10, .invokevirtual 125, 3) := by decide +kernel
theorem xm24_125 : tt_ml 24 125 = (3, 31, 1) := by decide +kernel
theorem xi31 : tt_mci 31 = 8 := by decide +kernel
theorem xc24_147 : tt_cd 24 147 = (1, .aload_n 0, 1) := by decide +kernel
theorem xc24_148 : tt_cd 24 148 = (3, .getfield 36, 3) := by decide +kernel
theorem xc24_151 : tt_cd 24 151 = (1, .aload_n 1, 1) := by decide +kernel
theorem xc24_152 : tt_cd 24 152 = (3, .getfield 129, 3) := by decide +kernel
theorem xf24_129 : tt_fl 24 129 = (2, 9, 8) := by decide +kernel
theorem xc24_155 : tt_cd 24 155 = (2, .iconst 0, 1) := by decide +kernel
theorem xc24_156 : tt_cd 24 156 = (1, .aload_n 1, 1) := by decide +kernel
theorem xc24_157 : tt_cd 24 157 = (3, .getfield 132, 3) := by decide +kernel
theorem xf24_132 : tt_fl 24 132 = (2, 9, 9) := by decide +kernel
theorem xc24_160 : tt_cd 24 160 = (1, .aload_n 0, 1) := by decide +kernel
theorem xc24_161 : tt_cd 24 161 = (3, .getfield 33, 3) := by decide +kernel
theorem xf24_33 : tt_fl 24 33 = (1, 8, 10) := by decide +kernel
theorem xc24_164 : tt_cd 24 164 = (10, .invokevirtual 135, 3) := by decide +kernel
theorem xm24_135 : tt_ml 24 135 = (3, 13, 4) := by decide +kernel
theorem xc24_167 : tt_cd 24 167 = (1, .aload_n 0, 1) := by decide +kernel
theorem xc24_168 : tt_cd 24 168 = (3, .getfield 33, 3) := by decide +kernel
theorem xc24_171 : tt_cd 24 171 = (2, .iconst 0, 1) := by decide +kernel
theorem xc24_172 : tt_cd 24 172 = (1, .aload 4, 2) := by decide +kernel
theorem xc24_174 : tt_cd 24 174 = (4, .bipush 64, 2) := by decide +kernel
theorem xc24_176 : tt_cd 24 176 = (4, .bipush 32, 2) := by decide +kernel
theorem xc24_178 : tt_cd 24 178 = (10, .invokestatic 98, 3) := by decide +kernel
theorem xc24_181 : tt_cd 24 181 = (1, .aload_n 0, 1) := by decide +kernel
theorem xc24_182 : tt_cd 24 182 = (1, .aload_n 1, 1) := by decide +kernel
theorem xc24_183 : tt_cd 24 183 = (10, .invokevirtual 139, 3) := by decide +kernel
theorem xm24_139 : tt_ml 24 139 = (3, 46, 1) := by decide +kernel
theorem xi46 : tt_mci 46 = 8 := by decide +kernel
theorem xc24_186 : tt_cd 24 186 = (1, .aload_n 0, 1) := by decide +kernel
theorem xc24_187 : tt_cd 24 187 = (3, .getfield 13, 3) := by decide +kernel
theorem xf24_13 : tt_fl 24 13 = (1, 8, 2) := by decide +kernel
theorem xc24_190 : tt_cd 24 190 = (1, .aload_n 0, 1) := by decide +kernel
theorem xc24_191 : tt_cd 24 191 = (3, .getfield 44, 3) := by decide +kernel
theorem xf24_44 : tt_fl 24 44 = (1, 8, 3) := by decide +kernel
theorem xc24_194 : tt_cd 24 194 = (1, .aload_n 1, 1) := by decide +kernel
theorem xc24_195 : tt_cd 24 195 = (6, .aastore, 1) := by decide +kernel
theorem xc24_196 : tt_cd 24 196 = (1, .aload_n 0, 1) := by decide +kernel
theorem xc24_197 : tt_cd 24 197 = (2, .dup, 1) := by decide +kernel
theorem xc24_198 : tt_cd 24 198 = (3, .getfield 44, 3) := by decide +kernel
theorem xc24_201 : tt_cd 24 201 = (2, .iconst 1, 1) := by decide +kernel
theorem xc24_202 : tt_cd 24 202 = (2, .iadd, 1) := by decide +kernel
theorem xc24_203 : tt_cd 24 203 = (6, .putfield 44, 3) := by decide +kernel
theorem xh24_44 : (!(tt_ffin 8 3) || (tt_ini 24 && Nat.beq 1 1)) = true := by decide +kernel
theorem xt8_3 : tt_fty 8 3 = .int := by decide +kernel
theorem xc24_206 : tt_cd 24 206 = (1, .aload_n 1, 1) := by decide +kernel
theorem xc24_207 : tt_cd 24 207 = (3, .getfield 142, 3) := by decide +kernel
theorem xf24_142 : tt_fl 24 142 = (2, 9, 1) := by decide +kernel
theorem xc24_210 : tt_cd 24 210 = (9, .ireturn, 1) := by decide +kernel
theorem xr24 : tt_mr 24 = 1 := by decide +kernel
theorem xc53_0 : tt_cd 53 0 = (1, .iload_n 1, 1) := by decide +kernel
theorem xc53_1 : tt_cd 53 1 = (5, .ifCond .lt 11, 3) := by decide +kernel
theorem xc53_4 : tt_cd 53 4 = (1, .iload_n 1, 1) := by decide +kernel
theorem xc53_5 : tt_cd 53 5 = (1, .aload_n 0, 1) := by decide +kernel
theorem xc53_6 : tt_cd 53 6 = (3, .getfield 44, 3) := by decide +kernel
theorem xf53_44 : tt_fl 53 44 = (1, 8, 3) := by decide +kernel
theorem xc53_9 : tt_cd 53 9 = (5, .if_icmp .lt 7, 3) := by decide +kernel
theorem xc53_16 : tt_cd 53 16 = (1, .aload_n 0, 1) := by decide +kernel
theorem xc53_17 : tt_cd 53 17 = (3, .getfield 13, 3) := by decide +kernel
theorem xf53_13 : tt_fl 53 13 = (1, 8, 2) := by decide +kernel
theorem xc53_20 : tt_cd 53 20 = (1, .iload_n 1, 1) := by decide +kernel
theorem xc53_21 : tt_cd 53 21 = (3, .aaload, 1) := by decide +kernel
theorem xc53_22 : tt_cd 53 22 = (9, .areturn, 1) := by decide +kernel
theorem xr53 : tt_mr 53 = 3 := by decide +kernel
theorem xc63_0 : tt_cd 63 0 = (1, .aload_n 0, 1) := by decide +kernel
theorem xc63_1 : tt_cd 63 1 = (3, .getfield 88, 3) := by decide +kernel
theorem xf63_88 : tt_fl 63 88 = (1, 1, 7) := by decide +kernel
theorem xc63_4 : tt_cd 63 4 = (1, .iload_n 1, 1) := by decide +kernel
theorem xc63_5 : tt_cd 63 5 = (10, .invokevirtual 92, 3) := by decide +kernel
theorem xm63_92 : tt_ml 63 92 = (3, 53, 1) := by decide +kernel
theorem xc63_8 : tt_cd 63 8 = (1, .astore_n 3, 1) := by decide +kernel
theorem xl63 : tt_mL 63 = 6 := by decide +kernel
theorem xc63_9 : tt_cd 63 9 = (1, .aload_n 3, 1) := by decide +kernel
theorem xc63_10 : tt_cd 63 10 = (5, .ifnull 14, 3) := by decide +kernel
theorem xc63_13 : tt_cd 63 13 = (1, .iload_n 2, 1) := by decide +kernel
theorem xc63_14 : tt_cd 63 14 = (5, .ifCond .lt 10, 3) := by decide +kernel
theorem xc63_17 : tt_cd 63 17 = (1, .iload_n 2, 1) := by decide +kernel
theorem xc63_18 : tt_cd 63 18 = (4, .sipush 1000, 3) := by decide +kernel
theorem xc63_21 : tt_cd 63 21 = (5, .if_icmp .le 5, 3) := by decide +kernel
theorem xc63_26 : tt_cd 63 26 = (1, .aload_n 0, 1) := by decide +kernel
theorem xc63_27 : tt_cd 63 27 = (3, .getfield 88, 3) := by decide +kernel
theorem xc63_30 : tt_cd 63 30 = (10, .invokevirtual 159, 3) := by decide +kernel
theorem xm63_159 : tt_ml 63 159 = (3, 25, 0) := by decide +kernel
theorem xc63_33 : tt_cd 63 33 = (5, .ifCond .eq 6, 3) := by decide +kernel
theorem xc63_39 : tt_cd 63 39 = (7, .getstatic 65, 3) := by decide +kernel
theorem xz63_65 : tt_sl 63 65 = 1 := by decide +kernel
theorem xc63_42 : tt_cd 63 42 = (1, .astore 4, 2) := by decide +kernel
theorem xc63_44 : tt_cd 63 44 = (1, .aload_n 0, 1) := by decide +kernel
theorem xc63_45 : tt_cd 63 45 = (3, .getfield 103, 3) := by decide +kernel
theorem xf63_103 : tt_fl 63 103 = (1, 1, 1) := by decide +kernel
theorem xc63_48 : tt_cd 63 48 = (4, .bipush 20, 2) := by decide +kernel
theorem xc63_50 : tt_cd 63 50 = (5, .if_icmp .lt 14, 3) := by decide +kernel
theorem xc63_64 : tt_cd 63 64 = (1, .aload_n 0, 1) := by decide +kernel
theorem xc63_65 : tt_cd 63 65 = (3, .getfield 88, 3) := by decide +kernel
theorem xc63_68 : tt_cd 63 68 = (1, .aload_n 3, 1) := by decide +kernel
theorem xc63_69 : tt_cd 63 69 = (1, .aload 4, 2) := by decide +kernel
theorem xc63_71 : tt_cd 63 71 = (10, .invokevirtual 68, 3) := by decide +kernel
theorem xm63_68 : tt_ml 63 68 = (3, 8, 2) := by decide +kernel
theorem xi8 : tt_mci 8 = 8 := by decide +kernel
theorem xc63_74 : tt_cd 63 74 = (1, .astore 5, 2) := by decide +kernel
theorem xc63_76 : tt_cd 63 76 = (1, .aload_n 0, 1) := by decide +kernel
theorem xc63_77 : tt_cd 63 77 = (3, .getfield 88, 3) := by decide +kernel
theorem xc63_80 : tt_cd 63 80 = (1, .aload 5, 2) := by decide +kernel
theorem xc63_82 : tt_cd 63 82 = (10, .invokevirtual 163, 3) := by decide +kernel
theorem xm63_163 : tt_ml 63 163 = (3, 64, 1) := by decide +kernel
theorem xi64 : tt_mci 64 = 8 := by decide +kernel
theorem xc63_85 : tt_cd 63 85 = (1, .aload_n 0, 1) := by decide +kernel
theorem xc63_86 : tt_cd 63 86 = (3, .getfield 88, 3) := by decide +kernel
theorem xc63_89 : tt_cd 63 89 = (1, .aload 5, 2) := by decide +kernel
theorem xc63_91 : tt_cd 63 91 = (1, .iload_n 2, 1) := by decide +kernel
theorem xc63_92 : tt_cd 63 92 = (10, .invokevirtual 72, 3) := by decide +kernel
theorem xm63_72 : tt_ml 63 72 = (3, 24, 2) := by decide +kernel
theorem xi24 : tt_mci 24 = 8 := by decide +kernel
theorem xc63_95 : tt_cd 63 95 = (9, .ireturn, 1) := by decide +kernel
theorem xr63 : tt_mr 63 = 1 := by decide +kernel
theorem wh_take {N : Nat} {pl : Nat → Nat} {w0 w : mv_T 10} {cs : List mv_C} (k : Nat) (h : wh N pl w0 w cs) : wh N pl w0 w (cs.take k) := by
  obtain ⟨h1, h2, h3, h4, h5⟩ := h
  refine ⟨fun i c hc => h1 i c ?_, h2, h3, Nat.le_trans (by rw [List.length_take]; exact Nat.min_le_right _ _) h4, h5⟩
  rw [List.getElem?_take] at hc
  split at hc
  · exact hc
  · cases hc
theorem mo_add_s {v : Nat} (h : v ≤ 1000) : mo_add 0 v = v := by
  unfold mo_add
  omega
def hd4 (B I t A T : Nat) : Nat := mv_cw 32 (mv_wr 32 (su_4 (mv_cw 32 B I 0 0 32) 96 t) 100 (mn_b 4294967298)) (mv_cw 32 A T 0 0 32) 0 32 32
theorem hd4_0 (B I t A T : Nat) : mv_rd 32 (hd4 B I t A T) 0 = mv_rd 32 I 0 := by
  unfold hd4
  rw [mv_cw_rd, if_neg (by omega), mv_rd_wr, if_neg (by decide), su_rd, if_neg (by decide), if_neg (by decide), if_neg (by decide), if_neg (by decide), mv_cw_rd, if_pos (by omega)]
theorem hd4_100 (B I t A T : Nat) : mv_rd 32 (hd4 B I t A T) 100 = 2 := by
  unfold hd4
  rw [mv_cw_rd, if_neg (by omega), mv_rd_wr, if_pos rfl]
  rfl
theorem mb_ab : mv_ab mb 8 20 = true := by decide +kernel
section JM
variable {n : Nat} {pl : Nat → Nat} {w0 w : mv_T 10} {X0 X1 cbs X3 Hd Id Ids Ads Br Dg X10 Sp Sw Ss In Mk Is Os Ks Kp ac su sl kl : Nat} {X20 Bh Bd cps Mb Ti X26 Pr wk : Nat}
theorem cj_fr  (hw : wh 30 pl w0 w [(0, 1, 13, X0), (0, 8, 11, X1), (3, 6, 40, cbs), (0, 9, 11, X3), (1, 1, 105, Hd), (1, 1, 32, Id), (1, 1, 128, Ids), (1, 1, 480, Ads), (1, 1, 32, Br), (1, 1, 32, Dg), (0, 2, 13, X10), (1, 1, 64, Sp), (1, 0, 64, Sw), (1, 0, 8, Ss), (1, 1, 32, In), (1, 1, 32, Mk), (1, 0, 8, Is), (1, 0, 8, Os), (1, 0, 8, Ks), (1, 1, 64, Kp), (0, 9, 11, X20), (1, 1, 105, Bh), (1, 1, 32, Bd), (3, 7, 4, cps), (1, 1, 28, Mb), (1, 1, 32, Ti), (0, 10, 6, X26), (1, 0, 4, Pr)]) (hX0 : fh X0 kX [(2, pl 1, 0), (0, 0, 0)]) (hX1 : fh X1 kM [(0, 1, 0), (2, pl 2, 0), (0, 0, 0), (2, pl 10, 0), (2, pl 6, 0), (2, pl 7, 0), (0, ac, 0), (2, pl 8, 0), (2, pl 9, 0)]) (hX3 : fh X3 kB [(2, pl 5, 0), (2, pl 4, 0), (0, 0, 0), (0, 4, 0), (3, 0, 0)]) (hX10 : fh X10 kS [(2, pl 11, 0), (2, pl 12, 0), (2, pl 13, 0), (2, pl 14, 0), (0, su, 0), (0, sl, 0), (2, pl 15, 0), (2, pl 16, 0), (2, pl 17, 0), (0, 1, 0), (2, pl 18, 0), (2, pl 19, 0), (0, kl, 0)]) (hX20 : fh X20 kN [(2, pl 3, 0), (0, 1, 0), (0, 1, 0), (0, wk, 0), (2, pl 21, 0), (2, pl 22, 0), (2, pl 23, 0), (0, 1, 0), (3, 0, 0), (0, 0, 0), (3, 0, 0)]) (hX26 : fh X26 kP [(2, pl 24, 0), (0, 0, 0), (0, 1, 0), (0, 28, 0), (2, pl 25, 0), (2, pl 27, 0)])  : sy_D 30 n 0 0 [(2, pl 10, 0), (2, pl 6, 0), (0, 1, 0)] w (fun ret w' => ret = [] ∧ w' = w) := by
  refine sy_Dof (us := [(255, 0, 0), (255, 0, 0), (255, 0, 0), (255, 0, 0), (255, 0, 0)]) (sy_oks_cons (sy_ok2 (wh_lt hw 10 (by first | decide | assumption))) (sy_oks_cons (sy_ok2 (wh_lt hw 6 (by first | decide | assumption))) (sy_oks_cons (sy_ok0 (by first | decide | assumption | omega | exact mo_rd_lt _ _ | exact mo_add_lt _ _ | exact mo_sub_lt _ _ | exact mo_mul_lt _ _ | exact mo_shl_lt _ _ | exact mo_ushr_lt _ _ | exact mo_or_lt (by decide) (mo_and_lt (mo_rd_lt _ _)) | exact mo_or_lt (mo_shl_lt _ _) (mo_and_lt (mo_rd_lt _ _)))) sy_oks_nil))) rfl rfl ?_
  show sy_F 30 n 0 0 0 [(2, pl 10, 0), (2, pl 6, 0), (0, 1, 0), (255, 0, 0), (255, 0, 0), (255, 0, 0), (255, 0, 0), (255, 0, 0)] [] w _
  refine sy_Fs (sy_ildn xc30_0 rfl rfl sy_refl) ?_
  refine sy_Fs (sx_istn (j := 3) (ls' := [(2, pl 10, 0), (2, pl 6, 0), (0, 1, 0), (0, 1, 0), (255, 0, 0), (255, 0, 0), (255, 0, 0), (255, 0, 0)]) xc30_1 rfl rfl (sy_ok0 (by first | decide | assumption | omega | exact mo_rd_lt _ _ | exact mo_add_lt _ _ | exact mo_sub_lt _ _ | exact mo_mul_lt _ _ | exact mo_shl_lt _ _ | exact mo_ushr_lt _ _ | exact mo_or_lt (by decide) (mo_and_lt (mo_rd_lt _ _)) | exact mo_or_lt (mo_shl_lt _ _) (mo_and_lt (mo_rd_lt _ _)))) (by rw [xl30]; rfl) rfl rfl) ?_
  refine sy_Fs (sy_iconst (v := 0) xc30_2 (by decide) sy_refl) ?_
  refine sy_Fs (sx_ist (j := 4) (ls' := [(2, pl 10, 0), (2, pl 6, 0), (0, 1, 0), (0, 1, 0), (0, 0, 0), (255, 0, 0), (255, 0, 0), (255, 0, 0)]) xc30_3 rfl (sy_ok0 (by first | decide | assumption | omega | exact mo_rd_lt _ _ | exact mo_add_lt _ _ | exact mo_sub_lt _ _ | exact mo_mul_lt _ _ | exact mo_shl_lt _ _ | exact mo_ushr_lt _ _ | exact mo_or_lt (by decide) (mo_and_lt (mo_rd_lt _ _)) | exact mo_or_lt (mo_shl_lt _ _) (mo_and_lt (mo_rd_lt _ _)))) (by rw [xl30]; rfl) rfl rfl) ?_
  refine sy_Fs (sy_ild xc30_5 rfl rfl sy_refl) ?_
  refine sy_Fs (sy_bipush (v := 31) xc30_7 (by decide) (by decide) sy_refl) ?_
  refine sy_Fs (sy_ge_f xc30_9 (by decide) (by decide) (by decide) sy_refl) ?_
  refine sy_Fs (sy_ildn xc30_12 rfl rfl sy_refl) ?_
  refine sy_Fs (sy_iconst (v := 1) xc30_13 (by decide) sy_refl) ?_
  refine sy_Fs (sy_icmple_t (pc' := 103) xc30_14 (by decide) (by decide) (by decide) (by decide) sy_refl) ?_
  exact sy_Fv xc30_103 xr30 ⟨rfl, rfl⟩
theorem cj_co (hw : wh 30 pl w0 w [(0, 1, 13, X0), (0, 8, 11, X1), (3, 6, 40, cbs), (0, 9, 11, X3), (1, 1, 105, Hd), (1, 1, 32, Id), (1, 1, 128, Ids), (1, 1, 480, Ads), (1, 1, 32, Br), (1, 1, 32, Dg), (0, 2, 13, X10), (1, 1, 64, Sp), (1, 0, 64, Sw), (1, 0, 8, Ss), (1, 1, 32, In), (1, 1, 32, Mk), (1, 0, 8, Is), (1, 0, 8, Os), (1, 0, 8, Ks), (1, 1, 64, Kp), (0, 9, 11, X20), (1, 1, 105, Bh), (1, 1, 32, Bd), (3, 7, 4, cps), (1, 1, 28, Mb), (1, 1, 32, Ti), (0, 10, 6, X26), (1, 0, 4, Pr)]) (hX0 : fh X0 kX [(2, pl 1, 0), (0, 0, 0)]) (hX1 : fh X1 kM [(0, 1, 0), (2, pl 2, 0), (0, 0, 0), (2, pl 10, 0), (2, pl 6, 0), (2, pl 7, 0), (0, ac, 0), (2, pl 8, 0), (2, pl 9, 0)]) (hX3 : fh X3 kB [(2, pl 5, 0), (2, pl 4, 0), (0, 0, 0), (0, 4, 0), (3, 0, 0)]) (hX10 : fh X10 kS [(2, pl 11, 0), (2, pl 12, 0), (2, pl 13, 0), (2, pl 14, 0), (0, su, 0), (0, sl, 0), (2, pl 15, 0), (2, pl 16, 0), (2, pl 17, 0), (0, 1, 0), (2, pl 18, 0), (2, pl 19, 0), (0, kl, 0)]) (hX20 : fh X20 kN [(2, pl 3, 0), (0, 1, 0), (0, 1, 0), (0, wk, 0), (2, pl 21, 0), (2, pl 22, 0), (2, pl 23, 0), (0, 1, 0), (3, 0, 0), (0, 0, 0), (3, 0, 0)]) (hX26 : fh X26 kP [(2, pl 24, 0), (0, 0, 0), (0, 1, 0), (0, 28, 0), (2, pl 25, 0), (2, pl 27, 0)]) (hp20 : pl 20 + 1 = pl 21) (hp21 : pl 21 + 1 = pl 22) (hp22 : pl 22 + 1 = pl 23) (hp23 : pl 23 + 1 = pl 24) (hp24 : pl 24 + 1 = pl 25) (hp25 : pl 25 + 1 = pl 26) (hp26 : pl 26 + 1 = pl 27) (hp27 : pl 27 + 1 = pl 28) (hp28 : pl 28 + 1 = pl 29) (hp29 : pl 29 + 1 = pl 30) (hcps : mv_rd 32 cps 0 = pl 26 + 1) (hmb : mv_ab Mb 8 20 = true) (hti : mv_ab Ti 0 32 = true) (hid : mv_ab Id 0 32 = true) (hmk : mv_rd 32 Mk 0 ≠ mv_rd 32 Id 0) (ht : ∀ j, j < 4 → mv_rd 32 Hd (96 + j) = 0) (hd : mv_rd 32 Hd 100 = 2) {sec : Nat} (hsec : sec ≤ 1000) (hsu : su < 64) (hsl : sl < 4294967296) : ∃ ret n' w' dc ds, (ret = [(0, 1, 0)] ∧ n' = pl 30 ∧ dc = 2 ∧ ds = 3 ∧ ∃ cs, wh 30 pl w0 w' cs) ∧ sy_B 24 (pl 28) 6 141 [(2, pl 1, 0), (2, pl 20, 0), (0, sec, 0)] w ret n' w' dc ds := by
  have key : sy_A 24 (pl 28) 6 141 0 [(2, pl 1, 0), (2, pl 20, 0), (0, sec, 0), (255, 0, 0), (255, 0, 0), (255, 0, 0)] [] w (fun ret n' w' dc ds => ret = [(0, 1, 0)] ∧ n' = pl 30 ∧ dc = 2 ∧ ds = 3 ∧ ∃ cs, wh 30 pl w0 w' cs) := by
    refine sy_As (sy_aldn xc24_0 rfl rfl sy_refl) ?_
    have hw20 : wh 30 pl w0 _ [(0, 1, 13, X0), (0, 8, 11, X1), (3, 6, 40, cbs), (0, 9, 11, X3), (1, 1, 105, Hd), (1, 1, 32, Id), (1, 1, 128, Ids), (1, 1, 480, Ads), (1, 1, 32, Br), (1, 1, 32, Dg), (0, 2, 13, X10), (1, 1, 64, Sp), (1, 0, 64, Sw), (1, 0, 8, Ss), (1, 1, 32, In), (1, 1, 32, Mk), (1, 0, 8, Is), (1, 0, 8, Os), (1, 0, 8, Ks), (1, 1, 64, Kp)] := wh_take 20 hw
    refine sy_As (sy_callG (kd := 3) (as := [(2, pl 1, 0)]) (S0 := []) (ret := [(0, 0, 0)]) xc24_1 (sy_calV (as := [(2, pl 1, 0)]) (S0 := []) xm24_88 rfl rfl) rfl rfl (sy_rcvm xi25 (wh_at hw 1 rfl)) rfl (sy_oka (sy_oks_cons (sy_ok2 (wh_lt hw 1 (by first | decide | assumption))) sy_oks_nil) rfl xl25) (sy_Cw (cd_done (n := pl 28) hw20 hX0 hX1 hX3 hX10 )) (by decide) (by rw [xl25]; decide) sy_refl) ?_
    refine sy_As (sy_ifeq_t (pc' := 10) xc24_4 (by decide) (by decide) (by decide) sy_refl) ?_
    refine sy_As (sy_aldn xc24_10 rfl rfl sy_refl) ?_
    refine sy_As (sy_gf xc24_11 xf24_91 rfl (wh_at hw 20 rfl) rfl (fh_at hX20 0 rfl rfl) sy_refl) ?_
    refine sy_As (sx_astn (j := 3) (ls' := [(2, pl 1, 0), (2, pl 20, 0), (0, sec, 0), (2, pl 3, 0), (255, 0, 0), (255, 0, 0)]) xc24_14 rfl rfl (sy_ok2 (wh_lt hw 3 (by first | decide | assumption))) (by rw [xl24]; rfl) rfl rfl) ?_
    refine sy_As (sy_aldn xc24_15 rfl rfl sy_refl) ?_
    refine sy_As (sy_gf xc24_16 xf24_95 rfl (wh_at hw 20 rfl) rfl (fh_at hX20 4 rfl rfl) sy_refl) ?_
    refine sy_As (sx_ast (j := 4) (ls' := [(2, pl 1, 0), (2, pl 20, 0), (0, sec, 0), (2, pl 3, 0), (2, pl 21, 0), (255, 0, 0)]) xc24_19 rfl (sy_ok2 (wh_lt hw 21 (by first | decide | assumption))) (by rw [xl24]; rfl) rfl rfl) ?_
    refine sy_As (sy_aldn xc24_21 rfl rfl sy_refl) ?_
    refine sy_As (sy_nnl_t (pc' := 34) xc24_22 (by decide) (by decide) sy_refl) ?_
    refine sy_As (sy_aldn xc24_34 rfl rfl sy_refl) ?_
    refine sy_As (sy_gf xc24_35 xf24_48 rfl (wh_at hw 3 rfl) rfl (fh_at hX3 0 rfl rfl) sy_refl) ?_
    refine sy_As (sy_iconst (v := 0) xc24_38 (by decide) sy_refl) ?_
    refine sy_As (sy_ald xc24_39 rfl rfl sy_refl) ?_
    refine sy_As (sy_iconst (v := 0) xc24_41 (by decide) sy_refl) ?_
    refine sy_As (sy_bipush (v := 32) xc24_42 (by decide) (by decide) sy_refl) ?_
    refine sy_Aw (i := 21) (x := (1, 1, 105, (mv_cw 32 Bh Id 0 0 32))) hw (by decide) (sy_call8 (as := [(2, pl 5, 0), (0, 0, 0), (2, pl 21, 0), (0, 0, 0), (0, 32, 0)]) (S0 := []) xc24_44 (sy_calS (as := [(2, pl 5, 0), (0, 0, 0), (2, pl 21, 0), (0, 0, 0), (0, 32, 0)]) (S0 := []) xm24_98 rfl rfl) (sy_cpb (wh_at hw 5 rfl) (wh_at hw 21 rfl) (by first | decide | assumption | omega) (by first | decide | assumption | omega) (by first | decide | assumption | omega) (by first | decide | assumption | omega) hid) (by decide) (by decide) sy_refl) ?_
    intro w hw
    simp only [List.set_cons_zero, List.set_cons_succ] at hw
    refine sy_As (sy_aldn xc24_47 rfl rfl sy_refl) ?_
    have hw20 : wh 30 pl w0 _ [(0, 1, 13, X0), (0, 8, 11, X1), (3, 6, 40, cbs), (0, 9, 11, X3), (1, 1, 105, Hd), (1, 1, 32, Id), (1, 1, 128, Ids), (1, 1, 480, Ads), (1, 1, 32, Br), (1, 1, 32, Dg), (0, 2, 13, X10), (1, 1, 64, Sp), (1, 0, 64, Sw), (1, 0, 8, Ss), (1, 1, 32, In), (1, 1, 32, Mk), (1, 0, 8, Is), (1, 0, 8, Os), (1, 0, 8, Ks), (1, 1, 64, Kp)] := wh_take 20 hw
    refine sy_As (sy_callG (kd := 3) (as := [(2, pl 3, 0)]) (S0 := []) (ret := [(0, 0, 0)]) xc24_48 (sy_calV (as := [(2, pl 3, 0)]) (S0 := []) xm24_104 rfl rfl) rfl rfl (sy_rcvm xi26 (wh_at hw 3 rfl)) rfl (sy_oka (sy_oks_cons (sy_ok2 (wh_lt hw 3 (by first | decide | assumption))) sy_oks_nil) rfl xl26) (sy_Cw (cd_time (n := pl 28) hw20 hX0 hX1 hX3 hX10 ht)) (by decide) (by rw [xl26]; decide) sy_refl) ?_
    refine sy_As (sy_ildn xc24_51 rfl rfl sy_refl) ?_
    refine sy_As (sx_iadd (z := sec) xc24_52 (mo_add_s hsec)) ?_
    refine sy_As (sy_ald xc24_53 rfl rfl sy_refl) ?_
    refine sy_As (sy_bipush (v := 96) xc24_55 (by decide) (by decide) sy_refl) ?_
    refine sy_Aw (i := 21) (x := (1, 1, 105, (su_4 (mv_cw 32 Bh Id 0 0 32) 96 sec))) hw (by decide) (sy_callG (kd := 2) (as := [(0, sec, 0), (2, pl 21, 0), (0, 96, 0)]) (S0 := []) (ret := []) xc24_57 (sy_calS (as := [(0, sec, 0), (2, pl 21, 0), (0, 96, 0)]) (S0 := []) xm24_108 rfl rfl) rfl rfl rfl rfl (sy_oka (sy_oks_cons (sy_ok0 (by first | decide | assumption | omega | exact mo_rd_lt _ _ | exact mo_add_lt _ _ | exact mo_sub_lt _ _ | exact mo_mul_lt _ _ | exact mo_shl_lt _ _ | exact mo_ushr_lt _ _ | exact mo_or_lt (by decide) (mo_and_lt (mo_rd_lt _ _)) | exact mo_or_lt (mo_shl_lt _ _) (mo_and_lt (mo_rd_lt _ _)))) (sy_oks_cons (sy_ok2 (wh_lt hw 21 (by first | decide | assumption))) (sy_oks_cons (sy_ok0 (by first | decide | assumption | omega | exact mo_rd_lt _ _ | exact mo_add_lt _ _ | exact mo_sub_lt _ _ | exact mo_mul_lt _ _ | exact mo_shl_lt _ _ | exact mo_ushr_lt _ _ | exact mo_or_lt (by decide) (mo_and_lt (mo_rd_lt _ _)) | exact mo_or_lt (mo_shl_lt _ _) (mo_and_lt (mo_rd_lt _ _)))) sy_oks_nil))) rfl xl11) (su_run (wh_lt hw 21 (by first | decide | assumption)) (wh_at hw 21 rfl) (by first | decide | assumption | omega) (by first | decide | assumption | omega) (by first | decide | assumption | omega | exact mo_rd_lt _ _ | exact mo_add_lt _ _ | exact mo_sub_lt _ _ | exact mo_mul_lt _ _ | exact mo_shl_lt _ _ | exact mo_ushr_lt _ _ | exact mo_or_lt (by decide) (mo_and_lt (mo_rd_lt _ _)) | exact mo_or_lt (mo_shl_lt _ _) (mo_and_lt (mo_rd_lt _ _)))) (by decide) (by rw [xl11]; decide) sy_refl) ?_
    intro w hw
    simp only [List.set_cons_zero, List.set_cons_succ] at hw
    refine sy_As (sy_ald xc24_60 rfl rfl sy_refl) ?_
    refine sy_As (sy_bipush (v := 100) xc24_62 (by decide) (by decide) sy_refl) ?_
    refine sy_As (sy_aldn xc24_64 rfl rfl sy_refl) ?_
    have hw20 : wh 30 pl w0 _ [(0, 1, 13, X0), (0, 8, 11, X1), (3, 6, 40, cbs), (0, 9, 11, X3), (1, 1, 105, Hd), (1, 1, 32, Id), (1, 1, 128, Ids), (1, 1, 480, Ads), (1, 1, 32, Br), (1, 1, 32, Dg), (0, 2, 13, X10), (1, 1, 64, Sp), (1, 0, 64, Sw), (1, 0, 8, Ss), (1, 1, 32, In), (1, 1, 32, Mk), (1, 0, 8, Is), (1, 0, 8, Os), (1, 0, 8, Ks), (1, 1, 64, Kp)] := wh_take 20 hw
    refine sy_As (sy_callG (kd := 3) (as := [(2, pl 3, 0)]) (S0 := [(0, 100, 0), (2, pl 21, 0)]) (ret := [(0, 2, 0)]) xc24_65 (sy_calV (as := [(2, pl 3, 0)]) (S0 := [(0, 100, 0), (2, pl 21, 0)]) xm24_112 rfl rfl) rfl rfl (sy_rcvm xi28 (wh_at hw 3 rfl)) rfl (sy_oka (sy_oks_cons (sy_ok2 (wh_lt hw 3 (by first | decide | assumption))) sy_oks_nil) rfl xl28) (sy_Cw (cd_bn (n := pl 28) hw20 hX0 hX1 hX3 hX10 hd)) (by decide) (by rw [xl28]; decide) sy_refl) ?_
    refine sy_As (sx_i2b (z := 4294967298) xc24_68 (by decide)) ?_
    refine sy_Aw (i := 21) (x := (1, 1, 105, (mv_wr 32 (su_4 (mv_cw 32 Bh Id 0 0 32) 96 sec) 100 (mn_b 4294967298)))) hw (by decide) (sy_bas (i := 100) xc24_69 (wh_at hw 21 rfl) rfl (by decide) (by decide) rfl sy_refl) ?_
    intro w hw
    simp only [List.set_cons_zero, List.set_cons_succ] at hw
    refine sy_As (sy_iconst (v := 0) xc24_70 (by decide) sy_refl) ?_
    refine sy_As (sx_ist (j := 5) (ls' := [(2, pl 1, 0), (2, pl 20, 0), (0, sec, 0), (2, pl 3, 0), (2, pl 21, 0), (0, 0, 0)]) xc24_71 rfl (sy_ok0 (by first | decide | assumption | omega | exact mo_rd_lt _ _ | exact mo_add_lt _ _ | exact mo_sub_lt _ _ | exact mo_mul_lt _ _ | exact mo_shl_lt _ _ | exact mo_ushr_lt _ _ | exact mo_or_lt (by decide) (mo_and_lt (mo_rd_lt _ _)) | exact mo_or_lt (mo_shl_lt _ _) (mo_and_lt (mo_rd_lt _ _)))) (by rw [xl24]; rfl) rfl rfl) ?_
    refine sy_As (sy_ild xc24_73 rfl rfl sy_refl) ?_
    refine sy_As (sy_aldn xc24_75 rfl rfl sy_refl) ?_
    refine sy_As (sy_gf xc24_76 xf24_81 rfl (wh_at hw 20 rfl) rfl (fh_at hX20 7 rfl rfl) sy_refl) ?_
    refine sy_As (sy_ge_f xc24_79 (by decide) (by decide) (by decide) sy_refl) ?_
    refine sy_As (sy_aldn xc24_82 rfl rfl sy_refl) ?_
    refine sy_As (sy_gf xc24_83 xf24_115 rfl (wh_at hw 20 rfl) rfl (fh_at hX20 6 rfl rfl) sy_refl) ?_
    refine sy_As (sy_ild xc24_86 rfl rfl sy_refl) ?_
    refine sy_As (sy_aald (i := 0) xc24_88 (wh_at hw 23 rfl) cg_tP rfl (by decide) (by decide) hcps sy_refl) ?_
    refine sy_As (sy_gf xc24_89 xf24_118 rfl (wh_at hw 26 rfl) rfl (fh_at hX26 4 rfl rfl) sy_refl) ?_
    refine sy_As (sy_iconst (v := 0) xc24_92 (by decide) sy_refl) ?_
    refine sy_As (sy_aldn xc24_93 rfl rfl sy_refl) ?_
    refine sy_As (sy_gf xc24_94 xf24_23 rfl (wh_at hw 1 rfl) rfl (fh_at hX1 4 rfl rfl) sy_refl) ?_
    refine sy_As (sy_bipush (v := 32) xc24_97 (by decide) (by decide) sy_refl) ?_
    refine sy_As (sy_ild xc24_99 rfl rfl sy_refl) ?_
    refine sy_As (sx_imul (z := 0) xc24_101 (by decide)) ?_
    refine sy_As (sy_bipush (v := 32) xc24_102 (by decide) (by decide) sy_refl) ?_
    refine sy_Aw (i := 6) (x := (1, 1, 128, (mv_cw 32 Ids Ti 0 0 32))) hw (by decide) (sy_call8 (as := [(2, pl 25, 0), (0, 0, 0), (2, pl 6, 0), (0, 0, 0), (0, 32, 0)]) (S0 := []) xc24_104 (sy_calS (as := [(2, pl 25, 0), (0, 0, 0), (2, pl 6, 0), (0, 0, 0), (0, 32, 0)]) (S0 := []) xm24_98 rfl rfl) (sy_cpb (wh_at hw 25 rfl) (wh_at hw 6 rfl) (by first | decide | assumption | omega) (by first | decide | assumption | omega) (by first | decide | assumption | omega) (by first | decide | assumption | omega) hti) (by decide) (by decide) sy_refl) ?_
    intro w hw
    simp only [List.set_cons_zero, List.set_cons_succ] at hw
    refine sy_As (sx_iinc (c := 1) (z := 1) (ls' := [(2, pl 1, 0), (2, pl 20, 0), (0, sec, 0), (2, pl 3, 0), (2, pl 21, 0), (0, 1, 0)]) xc24_107 rfl (by decide) (by rw [xl24]; rfl) rfl (by decide) rfl) ?_
    refine sy_As (sy_goto (pc' := 73) xc24_110 (by decide) (by decide) sy_refl) ?_
    refine sy_As (sy_ild xc24_73 rfl rfl sy_refl) ?_
    refine sy_As (sy_aldn xc24_75 rfl rfl sy_refl) ?_
    refine sy_As (sy_gf xc24_76 xf24_81 rfl (wh_at hw 20 rfl) rfl (fh_at hX20 7 rfl rfl) sy_refl) ?_
    refine sy_As (sy_ge_t (pc' := 113) xc24_79 (by decide) (by decide) (by decide) (by decide) sy_refl) ?_
    refine sy_As (sy_aldn xc24_113 rfl rfl sy_refl) ?_
    refine sy_As (sy_gf xc24_114 xf24_36 rfl (wh_at hw 1 rfl) rfl (fh_at hX1 3 rfl rfl) sy_refl) ?_
    refine sy_As (sy_aldn xc24_117 rfl rfl sy_refl) ?_
    refine sy_As (sy_gf xc24_118 xf24_23 rfl (wh_at hw 1 rfl) rfl (fh_at hX1 4 rfl rfl) sy_refl) ?_
    refine sy_As (sy_aldn xc24_121 rfl rfl sy_refl) ?_
    refine sy_As (sy_gf xc24_122 xf24_81 rfl (wh_at hw 20 rfl) rfl (fh_at hX20 7 rfl rfl) sy_refl) ?_
    refine sy_As (sy_callG (kd := 3) (as := [(2, pl 10, 0), (2, pl 6, 0), (0, 1, 0)]) (S0 := []) (ret := []) xc24_125 (sy_calV (as := [(2, pl 10, 0), (2, pl 6, 0), (0, 1, 0)]) (S0 := []) xm24_119 rfl rfl) rfl rfl (sy_rcvm xi30 (wh_at hw 10 rfl)) rfl (sy_oka (sy_oks_cons (sy_ok2 (wh_lt hw 10 (by first | decide | assumption))) (sy_oks_cons (sy_ok2 (wh_lt hw 6 (by first | decide | assumption))) (sy_oks_cons (sy_ok0 (by first | decide | assumption | omega | exact mo_rd_lt _ _ | exact mo_add_lt _ _ | exact mo_sub_lt _ _ | exact mo_mul_lt _ _ | exact mo_shl_lt _ _ | exact mo_ushr_lt _ _ | exact mo_or_lt (by decide) (mo_and_lt (mo_rd_lt _ _)) | exact mo_or_lt (mo_shl_lt _ _) (mo_and_lt (mo_rd_lt _ _)))) sy_oks_nil))) rfl xl30) (sy_Cw (cj_fr (n := pl 28) hw hX0 hX1 hX3 hX10 hX20 hX26)) (by decide) (by rw [xl30]; decide) sy_refl) ?_
    refine sy_As (sy_aldn xc24_128 rfl rfl sy_refl) ?_
    refine sy_As (sy_gf xc24_129 xf24_23 rfl (wh_at hw 1 rfl) rfl (fh_at hX1 4 rfl rfl) sy_refl) ?_
    refine sy_As (sy_iconst (v := 0) xc24_132 (by decide) sy_refl) ?_
    refine sy_As (sy_ald xc24_133 rfl rfl sy_refl) ?_
    refine sy_As (sy_bipush (v := 32) xc24_135 (by decide) (by decide) sy_refl) ?_
    refine sy_As (sy_bipush (v := 32) xc24_137 (by decide) (by decide) sy_refl) ?_
    refine sy_Aw (i := 21) (x := (1, 1, 105, (hd4 Bh Id sec Ids Ti))) hw (by decide) (sy_call8 (as := [(2, pl 6, 0), (0, 0, 0), (2, pl 21, 0), (0, 32, 0), (0, 32, 0)]) (S0 := []) xc24_139 (sy_calS (as := [(2, pl 6, 0), (0, 0, 0), (2, pl 21, 0), (0, 32, 0), (0, 32, 0)]) (S0 := []) xm24_98 rfl rfl) (sy_cpb (wh_at hw 6 rfl) (wh_at hw 21 rfl) (by first | decide | assumption | omega) (by first | decide | assumption | omega) (by first | decide | assumption | omega) (by first | decide | assumption | omega) (ab_cw hti)) (by decide) (by decide) sy_refl) ?_
    intro w hw
    simp only [List.set_cons_zero, List.set_cons_succ] at hw
    refine sy_As (sy_aldn xc24_142 rfl rfl sy_refl) ?_
    refine sy_As (sy_aldn xc24_143 rfl rfl sy_refl) ?_
    obtain ⟨ret, n1, w, dc1, ds1, ⟨rfl, rfl, rfl, rfl, Z1, Z7, Z8, Z10, Z11, Z12, Z13, Z14, Z15, Z16, Z17, Z20, Z28, Z29, zu, zl, ⟨hsu, hsl⟩, hw1, hX1x, hX10x, hX20x⟩, hB⟩ := ch_mf hw hX0 hX1 hX3 hX10 hX20 hX26 hp20 hp21 hp22 hp23 hp24 hp25 hp26 hp27 hp28 hp29 hcps hmb (by rw [hd4_0]; exact hmk) hsu hsl
    refine sy_Acall (kd := 3) (as := [(2, pl 1, 0), (2, pl 20, 0)]) (S0 := []) (ret := []) xc24_144 (sy_calV (as := [(2, pl 1, 0), (2, pl 20, 0)]) (S0 := []) xm24_125 rfl rfl) rfl rfl (sy_rcvm xi31 (wh_at hw 1 rfl)) rfl (sy_oka (sy_oks_cons (sy_ok2 (wh_lt hw 1 (by first | decide | assumption))) (sy_oks_cons (sy_ok2 (wh_lt hw 20 (by first | decide | assumption))) sy_oks_nil)) rfl xl31) hB (by decide) (by rw [xl31]; decide) ?_
    simp only [List.nil_append, List.cons_append]
    replace hw := hw1
    replace hX1 := hX1x
    replace hX10 := hX10x
    replace hX20 := hX20x
    refine sy_As (sy_aldn xc24_147 rfl rfl sy_refl) ?_
    refine sy_As (sy_gf xc24_148 xf24_36 rfl (wh_at hw 1 rfl) rfl (fh_at hX1 3 rfl rfl) sy_refl) ?_
    refine sy_As (sy_aldn xc24_151 rfl rfl sy_refl) ?_
    refine sy_As (sy_gf xc24_152 xf24_129 rfl (wh_at hw 20 rfl) rfl (fh_at hX20 8 rfl rfl) sy_refl) ?_
    refine sy_As (sy_iconst (v := 0) xc24_155 (by decide) sy_refl) ?_
    refine sy_As (sy_aldn xc24_156 rfl rfl sy_refl) ?_
    refine sy_As (sy_gf xc24_157 xf24_132 rfl (wh_at hw 20 rfl) rfl (fh_at hX20 9 rfl rfl) sy_refl) ?_
    refine sy_As (sy_aldn xc24_160 rfl rfl sy_refl) ?_
    refine sy_As (sy_gf xc24_161 xf24_33 rfl (wh_at hw 1 rfl) rfl (fh_at hX1 8 rfl rfl) sy_refl) ?_
    obtain ⟨w, X10, P1, W1, S1, I1, T1, u1, l1, hC, hw1, hX1x, ⟨hsu, hsl⟩, hT1⟩ := wd_hash (n := pl 30) (s := (zu, zl, Z11, Z12, Z13)) (fa := 0) (nn := 2) (it := 9) (jf := 29) (f := fun j => mv_rd 32 Z29 (0 + j)) hw rfl rfl rfl rfl hX10 rfl rfl rfl rfl rfl rfl rfl (by decide) (by decide) rfl (by first | decide | assumption | omega) (by first | decide | assumption | omega) (by decide) (by decide) rfl (by first | decide | assumption | omega) (by first | decide | assumption | omega) (fun j _ => rfl) (by first | decide | assumption | omega)
    refine sy_As (sy_callG (kd := 3) (as := [(2, pl 10, 0), (2, pl 29, 0), (0, 0, 0), (0, 2, 0), (2, pl 9, 0)]) (S0 := []) (ret := []) xc24_164 (sy_calV (as := [(2, pl 10, 0), (2, pl 29, 0), (0, 0, 0), (0, 2, 0), (2, pl 9, 0)]) (S0 := []) xm24_135 rfl rfl) rfl rfl (sy_rcvm xi13 (wh_at hw 10 rfl)) rfl (sy_oka (sy_oks_cons (sy_ok2 (wh_lt hw 10 (by first | decide | assumption))) (sy_oks_cons (sy_ok2 (wh_lt hw 29 (by first | decide | assumption))) (sy_oks_cons (sy_ok0 (by first | decide | assumption | omega | exact mo_rd_lt _ _ | exact mo_add_lt _ _ | exact mo_sub_lt _ _ | exact mo_mul_lt _ _ | exact mo_shl_lt _ _ | exact mo_ushr_lt _ _ | exact mo_or_lt (by decide) (mo_and_lt (mo_rd_lt _ _)) | exact mo_or_lt (mo_shl_lt _ _) (mo_and_lt (mo_rd_lt _ _)))) (sy_oks_cons (sy_ok0 (by first | decide | assumption | omega | exact mo_rd_lt _ _ | exact mo_add_lt _ _ | exact mo_sub_lt _ _ | exact mo_mul_lt _ _ | exact mo_shl_lt _ _ | exact mo_ushr_lt _ _ | exact mo_or_lt (by decide) (mo_and_lt (mo_rd_lt _ _)) | exact mo_or_lt (mo_shl_lt _ _) (mo_and_lt (mo_rd_lt _ _)))) (sy_oks_cons (sy_ok2 (wh_lt hw 9 (by first | decide | assumption))) sy_oks_nil))))) rfl xl13) hC (by decide) (by rw [xl13]; decide) sy_refl) ?_
    replace hw := hw1
    replace hX10 := hX1x
    simp only [List.set_cons_zero, List.set_cons_succ] at hw hX10
    refine sy_As (sy_aldn xc24_167 rfl rfl sy_refl) ?_
    refine sy_As (sy_gf xc24_168 xf24_33 rfl (wh_at hw 1 rfl) rfl (fh_at hX1 8 rfl rfl) sy_refl) ?_
    refine sy_As (sy_iconst (v := 0) xc24_171 (by decide) sy_refl) ?_
    refine sy_As (sy_ald xc24_172 rfl rfl sy_refl) ?_
    refine sy_As (sy_bipush (v := 64) xc24_174 (by decide) (by decide) sy_refl) ?_
    refine sy_As (sy_bipush (v := 32) xc24_176 (by decide) (by decide) sy_refl) ?_
    refine sy_Aw (i := 21) (x := (1, 1, 105, (mv_cw 32 (hd4 Bh Id sec Ids Ti) T1 0 64 32))) hw (by decide) (sy_call8 (as := [(2, pl 9, 0), (0, 0, 0), (2, pl 21, 0), (0, 64, 0), (0, 32, 0)]) (S0 := []) xc24_178 (sy_calS (as := [(2, pl 9, 0), (0, 0, 0), (2, pl 21, 0), (0, 64, 0), (0, 32, 0)]) (S0 := []) xm24_98 rfl rfl) (sy_cpb (wh_at hw 9 rfl) (wh_at hw 21 rfl) (by first | decide | assumption | omega) (by first | decide | assumption | omega) (by first | decide | assumption | omega) (by first | decide | assumption | omega) (ab_D (fun j hj => by rw [hT1 j, if_pos (by omega)]; rfl))) (by decide) (by decide) sy_refl) ?_
    intro w hw
    simp only [List.set_cons_zero, List.set_cons_succ] at hw
    refine sy_As (sy_aldn xc24_181 rfl rfl sy_refl) ?_
    refine sy_As (sy_aldn xc24_182 rfl rfl sy_refl) ?_
    obtain ⟨ret, w, ⟨rfl, Y10, Y11, Y12, Y13, Y14, Y18, Y19, Y20, Y21, Y22, hw1, hX20x⟩, hC⟩ := ci_prove (n := pl 30) hw hX0 hX1 hX3 hX10 hX20 hX26 (by rw [mv_cw_rd, if_neg (by omega)]; exact hd4_100 _ _ _ _ _)
    refine sy_As (sy_callG (kd := 3) (as := [(2, pl 1, 0), (2, pl 20, 0)]) (S0 := []) (ret := []) xc24_183 (sy_calV (as := [(2, pl 1, 0), (2, pl 20, 0)]) (S0 := []) xm24_139 rfl rfl) rfl rfl (sy_rcvm xi46 (wh_at hw 1 rfl)) rfl (sy_oka (sy_oks_cons (sy_ok2 (wh_lt hw 1 (by first | decide | assumption))) (sy_oks_cons (sy_ok2 (wh_lt hw 20 (by first | decide | assumption))) sy_oks_nil)) rfl xl46) hC (by decide) (by rw [xl46]; decide) sy_refl) ?_
    replace hw := hw1
    replace hX20 := hX20x
    refine sy_As (sy_aldn xc24_186 rfl rfl sy_refl) ?_
    refine sy_As (sy_gf xc24_187 xf24_13 rfl (wh_at hw 1 rfl) rfl (fh_at hX1 1 rfl rfl) sy_refl) ?_
    refine sy_As (sy_aldn xc24_190 rfl rfl sy_refl) ?_
    refine sy_As (sy_gf xc24_191 xf24_44 rfl (wh_at hw 1 rfl) rfl (fh_at hX1 0 rfl rfl) sy_refl) ?_
    refine sy_As (sy_aldn xc24_194 rfl rfl sy_refl) ?_
    refine sy_Aw (i := 2) (x := (3, 6, 40, (mv_wr 32 cbs 1 (pl 20 + 1)))) hw (by decide) (sx_aas (i := 1) xc24_195 (wh_at hw 2 rfl) (wh_at hw 20 rfl) gv_tB rfl rfl (by decide) (by decide) rfl sy_refl) ?_
    intro w hw
    simp only [List.set_cons_zero, List.set_cons_succ] at hw
    refine sy_As (sy_aldn xc24_196 rfl rfl sy_refl) ?_
    refine sy_As (sy_dup xc24_197 rfl sy_refl) ?_
    refine sy_As (sy_gf xc24_198 xf24_44 rfl (wh_at hw 1 rfl) rfl (fh_at hX1 0 rfl rfl) sy_refl) ?_
    refine sy_As (sy_iconst (v := 1) xc24_201 (by decide) sy_refl) ?_
    refine sy_As (sx_iadd (z := 2) xc24_202 (by decide)) ?_
    refine sy_Af (i := 1) (q := 0) (v := (0, 2, 0)) hw hX1 (by decide) (by decide) rfl (sy_ok0 (by first | decide | assumption | omega | exact mo_rd_lt _ _ | exact mo_add_lt _ _ | exact mo_sub_lt _ _ | exact mo_mul_lt _ _ | exact mo_shl_lt _ _ | exact mo_ushr_lt _ _ | exact mo_or_lt (by decide) (mo_and_lt (mo_rd_lt _ _)) | exact mo_or_lt (mo_shl_lt _ _) (mo_and_lt (mo_rd_lt _ _)))) (sx_pf xc24_203 xf24_44 rfl (xg_int xt8_3) xh24_44 (wh_at hw 1 rfl) rfl (sy_ok0 (by first | decide | assumption | omega | exact mo_rd_lt _ _ | exact mo_add_lt _ _ | exact mo_sub_lt _ _ | exact mo_mul_lt _ _ | exact mo_shl_lt _ _ | exact mo_ushr_lt _ _ | exact mo_or_lt (by decide) (mo_and_lt (mo_rd_lt _ _)) | exact mo_or_lt (mo_shl_lt _ _) (mo_and_lt (mo_rd_lt _ _)))) rfl sy_refl) ?_
    intro w X1 hw hX1
    simp only [List.set_cons_zero, List.set_cons_succ] at hw hX1
    refine sy_As (sy_aldn xc24_206 rfl rfl sy_refl) ?_
    refine sy_As (sy_gf xc24_207 xf24_142 rfl (wh_at hw 20 rfl) rfl (fh_at hX20 1 rfl rfl) sy_refl) ?_
    exact sy_Ai xc24_210 xr24 rfl ⟨rfl, rfl, rfl, rfl, _, hw⟩
  exact sy_Aof (us := [(255, 0, 0), (255, 0, 0), (255, 0, 0)]) (sy_oks_cons (sy_ok2 (wh_lt hw 1 (by first | decide | assumption))) (sy_oks_cons (sy_ok2 (wh_lt hw 20 (by first | decide | assumption))) (sy_oks_cons (sy_ok0 (by first | decide | assumption | omega | exact mo_rd_lt _ _ | exact mo_add_lt _ _ | exact mo_sub_lt _ _ | exact mo_mul_lt _ _ | exact mo_shl_lt _ _ | exact mo_ushr_lt _ _ | exact mo_or_lt (by decide) (mo_and_lt (mo_rd_lt _ _)) | exact mo_or_lt (mo_shl_lt _ _) (mo_and_lt (mo_rd_lt _ _)))) sy_oks_nil))) rfl rfl key
theorem cj_ba  (hw : wh 30 pl w0 w [(0, 1, 13, X0), (0, 8, 11, X1), (3, 6, 40, cbs), (0, 9, 11, X3), (1, 1, 105, Hd), (1, 1, 32, Id), (1, 1, 128, Ids), (1, 1, 480, Ads), (1, 1, 32, Br), (1, 1, 32, Dg), (0, 2, 13, X10), (1, 1, 64, Sp), (1, 0, 64, Sw), (1, 0, 8, Ss), (1, 1, 32, In), (1, 1, 32, Mk), (1, 0, 8, Is), (1, 0, 8, Os), (1, 0, 8, Ks), (1, 1, 64, Kp)]) (hX0 : fh X0 kX [(2, pl 1, 0), (0, 0, 0)]) (hX1 : fh X1 kM [(0, 1, 0), (2, pl 2, 0), (0, 0, 0), (2, pl 10, 0), (2, pl 6, 0), (2, pl 7, 0), (0, ac, 0), (2, pl 8, 0), (2, pl 9, 0)]) (hX3 : fh X3 kB [(2, pl 5, 0), (2, pl 4, 0), (0, 0, 0), (0, 4, 0), (3, 0, 0)]) (hX10 : fh X10 kS [(2, pl 11, 0), (2, pl 12, 0), (2, pl 13, 0), (2, pl 14, 0), (0, su, 0), (0, sl, 0), (2, pl 15, 0), (2, pl 16, 0), (2, pl 17, 0), (0, 1, 0), (2, pl 18, 0), (2, pl 19, 0), (0, kl, 0)]) (hbs : mv_rd 32 cbs 0 = pl 3 + 1) : sy_D 53 n 0 0 [(2, pl 1, 0), (0, 0, 0)] w (fun ret w' => ret = [(2, pl 3, 0)] ∧ w' = w) := by
  refine sy_Dof (us := []) (sy_oks_cons (sy_ok2 (wh_lt hw 1 (by first | decide | assumption))) (sy_oks_cons (sy_ok0 (by first | decide | assumption | omega | exact mo_rd_lt _ _ | exact mo_add_lt _ _ | exact mo_sub_lt _ _ | exact mo_mul_lt _ _ | exact mo_shl_lt _ _ | exact mo_ushr_lt _ _ | exact mo_or_lt (by decide) (mo_and_lt (mo_rd_lt _ _)) | exact mo_or_lt (mo_shl_lt _ _) (mo_and_lt (mo_rd_lt _ _)))) sy_oks_nil)) rfl rfl ?_
  show sy_F 53 n 0 0 0 [(2, pl 1, 0), (0, 0, 0)] [] w _
  refine sy_Fs (sy_ildn xc53_0 rfl rfl sy_refl) ?_
  refine sy_Fs (sy_iflt_f xc53_1 (by decide) (by decide) sy_refl) ?_
  refine sy_Fs (sy_ildn xc53_4 rfl rfl sy_refl) ?_
  refine sy_Fs (sy_aldn xc53_5 rfl rfl sy_refl) ?_
  refine sy_Fs (sy_gf xc53_6 xf53_44 rfl (wh_at hw 1 rfl) rfl (fh_at hX1 0 rfl rfl) sy_refl) ?_
  refine sy_Fs (sy_icmplt_t (pc' := 16) xc53_9 (by decide) (by decide) (by decide) (by decide) sy_refl) ?_
  refine sy_Fs (sy_aldn xc53_16 rfl rfl sy_refl) ?_
  refine sy_Fs (sy_gf xc53_17 xf53_13 rfl (wh_at hw 1 rfl) rfl (fh_at hX1 1 rfl rfl) sy_refl) ?_
  refine sy_Fs (sy_ildn xc53_20 rfl rfl sy_refl) ?_
  refine sy_Fs (sy_aald (i := 0) xc53_21 (wh_at hw 2 rfl) gv_tB rfl (by decide) (by decide) hbs sy_refl) ?_
  exact sy_Fa xc53_22 xr53 rfl ⟨rfl, rfl⟩
theorem cj_mine (hw : wh 30 pl w0 w [(0, 1, 13, X0), (0, 8, 11, X1), (3, 6, 40, cbs), (0, 9, 11, X3), (1, 1, 105, Hd), (1, 1, 32, Id), (1, 1, 128, Ids), (1, 1, 480, Ads), (1, 1, 32, Br), (1, 1, 32, Dg), (0, 2, 13, X10), (1, 1, 64, Sp), (1, 0, 64, Sw), (1, 0, 8, Ss), (1, 1, 32, In), (1, 1, 32, Mk), (1, 0, 8, Is), (1, 0, 8, Os), (1, 0, 8, Ks), (1, 1, 64, Kp)]) (hX0 : fh X0 kX [(2, pl 1, 0), (0, 0, 0)]) (hX1 : fh X1 kM [(0, 1, 0), (2, pl 2, 0), (0, 0, 0), (2, pl 10, 0), (2, pl 6, 0), (2, pl 7, 0), (0, ac, 0), (2, pl 8, 0), (2, pl 9, 0)]) (hX3 : fh X3 kB [(2, pl 5, 0), (2, pl 4, 0), (0, 0, 0), (0, 4, 0), (3, 0, 0)]) (hX10 : fh X10 kS [(2, pl 11, 0), (2, pl 12, 0), (2, pl 13, 0), (2, pl 14, 0), (0, su, 0), (0, sl, 0), (2, pl 15, 0), (2, pl 16, 0), (2, pl 17, 0), (0, 1, 0), (2, pl 18, 0), (2, pl 19, 0), (0, kl, 0)]) (hp20 : pl 20 + 1 = pl 21) (hp21 : pl 21 + 1 = pl 22) (hp22 : pl 22 + 1 = pl 23) (hp23 : pl 23 + 1 = pl 24) (hp24 : pl 24 + 1 = pl 25) (hp25 : pl 25 + 1 = pl 26) (hp26 : pl 26 + 1 = pl 27) (hp27 : pl 27 + 1 = pl 28) (hp28 : pl 28 + 1 = pl 29) (hp29 : pl 29 + 1 = pl 30) (hbs : mv_rd 32 cbs 0 = pl 3 + 1) (hid : mv_ab Id 0 32 = true) (hmk : mv_rd 32 Mk 0 ≠ mv_rd 32 Id 0) (ht : ∀ j, j < 4 → mv_rd 32 Hd (96 + j) = 0) (hd : mv_rd 32 Hd 100 = 2) {sec : Nat} (hsec : sec ≤ 1000) : ∃ ret n' w' dc ds, (ret = [(0, 1, 0)] ∧ n' = pl 30 ∧ dc = 10 ∧ ds = 225 ∧ ∃ cs, wh 30 pl w0 w' cs) ∧ sy_B 63 (pl 20) 8 184 [(2, pl 0, 0), (0, 0, 0), (0, sec, 0)] w ret n' w' dc ds := by
  have key : sy_A 63 (pl 20) 8 184 0 [(2, pl 0, 0), (0, 0, 0), (0, sec, 0), (255, 0, 0), (255, 0, 0), (255, 0, 0)] [] w (fun ret n' w' dc ds => ret = [(0, 1, 0)] ∧ n' = pl 30 ∧ dc = 10 ∧ ds = 225 ∧ ∃ cs, wh 30 pl w0 w' cs) := by
    refine sy_As (sy_aldn xc63_0 rfl rfl sy_refl) ?_
    refine sy_As (sy_gf xc63_1 xf63_88 rfl (wh_at hw 0 rfl) rfl (fh_at hX0 0 rfl rfl) sy_refl) ?_
    refine sy_As (sy_ildn xc63_4 rfl rfl sy_refl) ?_
    refine sy_As (sy_callG (kd := 3) (as := [(2, pl 1, 0), (0, 0, 0)]) (S0 := []) (ret := [(2, pl 3, 0)]) xc63_5 (sy_calV (as := [(2, pl 1, 0), (0, 0, 0)]) (S0 := []) xm63_92 rfl rfl) rfl rfl (sy_rcvm xi53 (wh_at hw 1 rfl)) rfl (sy_oka (sy_oks_cons (sy_ok2 (wh_lt hw 1 (by first | decide | assumption))) (sy_oks_cons (sy_ok0 (by first | decide | assumption | omega | exact mo_rd_lt _ _ | exact mo_add_lt _ _ | exact mo_sub_lt _ _ | exact mo_mul_lt _ _ | exact mo_shl_lt _ _ | exact mo_ushr_lt _ _ | exact mo_or_lt (by decide) (mo_and_lt (mo_rd_lt _ _)) | exact mo_or_lt (mo_shl_lt _ _) (mo_and_lt (mo_rd_lt _ _)))) sy_oks_nil)) rfl xl53) (sy_Cw (cj_ba (n := pl 20) hw hX0 hX1 hX3 hX10 hbs)) (by decide) (by rw [xl53]; decide) sy_refl) ?_
    refine sy_As (sx_astn (j := 3) (ls' := [(2, pl 0, 0), (0, 0, 0), (0, sec, 0), (2, pl 3, 0), (255, 0, 0), (255, 0, 0)]) xc63_8 rfl rfl (sy_ok2 (wh_lt hw 3 (by first | decide | assumption))) (by rw [xl63]; rfl) rfl rfl) ?_
    refine sy_As (sy_aldn xc63_9 rfl rfl sy_refl) ?_
    refine sy_As (sy_nul_f xc63_10 (by decide) sy_refl) ?_
    refine sy_As (sy_ildn xc63_13 rfl rfl sy_refl) ?_
    refine sy_As (sy_iflt_f xc63_14 (by decide) (by omega) sy_refl) ?_
    refine sy_As (sy_ildn xc63_17 rfl rfl sy_refl) ?_
    refine sy_As (sy_sipush (v := 1000) xc63_18 (by decide) (by decide) sy_refl) ?_
    refine sy_As (sy_icmple_t (pc' := 26) xc63_21 (by decide) (by omega) (by decide) (by decide) sy_refl) ?_
    refine sy_As (sy_aldn xc63_26 rfl rfl sy_refl) ?_
    refine sy_As (sy_gf xc63_27 xf63_88 rfl (wh_at hw 0 rfl) rfl (fh_at hX0 0 rfl rfl) sy_refl) ?_
    refine sy_As (sy_callG (kd := 3) (as := [(2, pl 1, 0)]) (S0 := []) (ret := [(0, 0, 0)]) xc63_30 (sy_calV (as := [(2, pl 1, 0)]) (S0 := []) xm63_159 rfl rfl) rfl rfl (sy_rcvm xi25 (wh_at hw 1 rfl)) rfl (sy_oka (sy_oks_cons (sy_ok2 (wh_lt hw 1 (by first | decide | assumption))) sy_oks_nil) rfl xl25) (sy_Cw (cd_done (n := pl 20) hw hX0 hX1 hX3 hX10 )) (by decide) (by rw [xl25]; decide) sy_refl) ?_
    refine sy_As (sy_ifeq_t (pc' := 39) xc63_33 (by decide) (by decide) (by decide) sy_refl) ?_
    refine sy_As (sy_gst (q := 0) xc63_39 xz63_65 sy_refl) ?_
    refine sy_As (sx_ast (j := 4) (ls' := [(2, pl 0, 0), (0, 0, 0), (0, sec, 0), (2, pl 3, 0), (6, 0, 0), (255, 0, 0)]) xc63_42 rfl (by decide) (by rw [xl63]; rfl) rfl rfl) ?_
    refine sy_As (sy_aldn xc63_44 rfl rfl sy_refl) ?_
    refine sy_As (sy_gf xc63_45 xf63_103 rfl (wh_at hw 0 rfl) rfl (fh_at hX0 1 rfl rfl) sy_refl) ?_
    refine sy_As (sy_bipush (v := 20) xc63_48 (by decide) (by decide) sy_refl) ?_
    refine sy_As (sy_icmplt_t (pc' := 64) xc63_50 (by decide) (by decide) (by decide) (by decide) sy_refl) ?_
    refine sy_As (sy_aldn xc63_64 rfl rfl sy_refl) ?_
    refine sy_As (sy_gf xc63_65 xf63_88 rfl (wh_at hw 0 rfl) rfl (fh_at hX0 0 rfl rfl) sy_refl) ?_
    refine sy_As (sy_aldn xc63_68 rfl rfl sy_refl) ?_
    refine sy_As (sy_ald xc63_69 rfl rfl sy_refl) ?_
    obtain ⟨ret, n1, w, dc1, ds1, ⟨rfl, rfl, rfl, rfl, X10, P1, W1, S1, I1, T1, X20, X26, u1, l1, hT1, hw1, hX10x, hX20, hX26⟩, hB⟩ := cd_begin hw hX0 hX1 hX3 hX10 hp20 hp21 hp22 hp23 hp24 hp25 hp26 hp27 hp28 hp29
    refine sy_Acall (kd := 3) (as := [(2, pl 1, 0), (2, pl 3, 0), (6, 0, 0)]) (S0 := []) (ret := [(2, pl 20, 0)]) xc63_71 (sy_calV (as := [(2, pl 1, 0), (2, pl 3, 0), (6, 0, 0)]) (S0 := []) xm63_68 rfl rfl) rfl rfl (sy_rcvm xi8 (wh_at hw 1 rfl)) rfl (sy_oka (sy_oks_cons (sy_ok2 (wh_lt hw 1 (by first | decide | assumption))) (sy_oks_cons (sy_ok2 (wh_lt hw 3 (by first | decide | assumption))) (sy_oks_cons (by decide) sy_oks_nil))) rfl xl8) hB (by decide) (by rw [xl8]; decide) ?_
    simp only [List.nil_append, List.cons_append]
    replace hw := hw1
    replace hX10 := hX10x
    refine sy_As (sx_ast (j := 5) (ls' := [(2, pl 0, 0), (0, 0, 0), (0, sec, 0), (2, pl 3, 0), (6, 0, 0), (2, pl 20, 0)]) xc63_74 rfl (sy_ok2 (wh_lt hw 20 (by first | decide | assumption))) (by rw [xl63]; rfl) rfl rfl) ?_
    refine sy_As (sy_aldn xc63_76 rfl rfl sy_refl) ?_
    refine sy_As (sy_gf xc63_77 xf63_88 rfl (wh_at hw 0 rfl) rfl (fh_at hX0 0 rfl rfl) sy_refl) ?_
    refine sy_As (sy_ald xc63_80 rfl rfl sy_refl) ?_
    obtain ⟨ret, w, ⟨rfl, X1, hw1, hX1x⟩, hC⟩ := cd_tg (n := pl 28) hw hX0 hX1 hX3 hX10 hX20 hX26
    refine sy_As (sy_callG (kd := 3) (as := [(2, pl 1, 0), (2, pl 20, 0)]) (S0 := []) (ret := []) xc63_82 (sy_calV (as := [(2, pl 1, 0), (2, pl 20, 0)]) (S0 := []) xm63_163 rfl rfl) rfl rfl (sy_rcvm xi64 (wh_at hw 1 rfl)) rfl (sy_oka (sy_oks_cons (sy_ok2 (wh_lt hw 1 (by first | decide | assumption))) (sy_oks_cons (sy_ok2 (wh_lt hw 20 (by first | decide | assumption))) sy_oks_nil)) rfl xl64) hC (by decide) (by rw [xl64]; decide) sy_refl) ?_
    replace hw := hw1
    replace hX1 := hX1x
    refine sy_As (sy_aldn xc63_85 rfl rfl sy_refl) ?_
    refine sy_As (sy_gf xc63_86 xf63_88 rfl (wh_at hw 0 rfl) rfl (fh_at hX0 0 rfl rfl) sy_refl) ?_
    refine sy_As (sy_ald xc63_89 rfl rfl sy_refl) ?_
    refine sy_As (sy_ildn xc63_91 rfl rfl sy_refl) ?_
    obtain ⟨ret, n1, w, dc1, ds1, ⟨rfl, rfl, rfl, rfl, cs, hw1⟩, hB⟩ := cj_co hw hX0 hX1 hX3 hX10 hX20 hX26 hp20 hp21 hp22 hp23 hp24 hp25 hp26 hp27 hp28 hp29 (rd_wr_same (by have := wh_lt hw 26 (by decide); omega)) mb_ab hT1.1 hid hmk ht hd hsec hT1.2.1 hT1.2.2
    refine sy_Acall (kd := 3) (as := [(2, pl 1, 0), (2, pl 20, 0), (0, sec, 0)]) (S0 := []) (ret := [(0, 1, 0)]) xc63_92 (sy_calV (as := [(2, pl 1, 0), (2, pl 20, 0), (0, sec, 0)]) (S0 := []) xm63_72 rfl rfl) rfl rfl (sy_rcvm xi24 (wh_at hw 1 rfl)) rfl (sy_oka (sy_oks_cons (sy_ok2 (wh_lt hw 1 (by first | decide | assumption))) (sy_oks_cons (sy_ok2 (wh_lt hw 20 (by first | decide | assumption))) (sy_oks_cons (sy_ok0 (by first | decide | assumption | omega | exact mo_rd_lt _ _ | exact mo_add_lt _ _ | exact mo_sub_lt _ _ | exact mo_mul_lt _ _ | exact mo_shl_lt _ _ | exact mo_ushr_lt _ _ | exact mo_or_lt (by decide) (mo_and_lt (mo_rd_lt _ _)) | exact mo_or_lt (mo_shl_lt _ _) (mo_and_lt (mo_rd_lt _ _)))) sy_oks_nil))) rfl xl24) hB (by decide) (by rw [xl24]; decide) ?_
    simp only [List.nil_append, List.cons_append]
    exact sy_Ai xc63_95 xr63 rfl ⟨rfl, rfl, rfl, rfl, _, hw1⟩
  exact sy_Aof (us := [(255, 0, 0), (255, 0, 0), (255, 0, 0)]) (sy_oks_cons (sy_ok2 (wh_lt hw 0 (by first | decide | assumption))) (sy_oks_cons (sy_ok0 (by first | decide | assumption | omega | exact mo_rd_lt _ _ | exact mo_add_lt _ _ | exact mo_sub_lt _ _ | exact mo_mul_lt _ _ | exact mo_shl_lt _ _ | exact mo_ushr_lt _ _ | exact mo_or_lt (by decide) (mo_and_lt (mo_rd_lt _ _)) | exact mo_or_lt (mo_shl_lt _ _) (mo_and_lt (mo_rd_lt _ _)))) (sy_oks_cons (sy_ok0 (by first | decide | assumption | omega | exact mo_rd_lt _ _ | exact mo_add_lt _ _ | exact mo_sub_lt _ _ | exact mo_mul_lt _ _ | exact mo_shl_lt _ _ | exact mo_ushr_lt _ _ | exact mo_or_lt (by decide) (mo_and_lt (mo_rd_lt _ _)) | exact mo_or_lt (mo_shl_lt _ _) (mo_and_lt (mo_rd_lt _ _)))) sy_oks_nil))) rfl rfl key
end JM
