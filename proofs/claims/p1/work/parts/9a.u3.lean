/-! THE CLASS'S MINE, III -/
theorem xc25_0 : tt_cd 25 0 = (1, .aload_n 0, 1) := by decide +kernel
theorem xc25_1 : tt_cd 25 1 = (3, .getfield 44, 3) := by decide +kernel
theorem xf25_44 : tt_fl 25 44 = (1, 8, 3) := by decide +kernel
theorem xc25_4 : tt_cd 25 4 = (4, .bipush 40, 2) := by decide +kernel
theorem xc25_6 : tt_cd 25 6 = (5, .if_icmp .lt 7, 3) := by decide +kernel
theorem xc25_13 : tt_cd 25 13 = (2, .iconst 0, 1) := by decide +kernel
theorem xc25_14 : tt_cd 25 14 = (9, .ireturn, 1) := by decide +kernel
theorem xr25 : tt_mr 25 = 4 := by decide +kernel
theorem xc27_0 : tt_cd 27 0 = (1, .iload_n 1, 1) := by decide +kernel
theorem xc27_1 : tt_cd 27 1 = (5, .ifCond .lt 11, 3) := by decide +kernel
theorem xc27_4 : tt_cd 27 4 = (1, .iload_n 1, 1) := by decide +kernel
theorem xc27_5 : tt_cd 27 5 = (1, .aload_n 0, 1) := by decide +kernel
theorem xc27_6 : tt_cd 27 6 = (3, .arraylength, 1) := by decide +kernel
theorem xc27_7 : tt_cd 27 7 = (2, .iconst 4, 1) := by decide +kernel
theorem xc27_8 : tt_cd 27 8 = (2, .isub, 1) := by decide +kernel
theorem xc27_9 : tt_cd 27 9 = (5, .if_icmp .le 5, 3) := by decide +kernel
theorem xc27_14 : tt_cd 27 14 = (1, .aload_n 0, 1) := by decide +kernel
theorem xc27_15 : tt_cd 27 15 = (1, .iload_n 1, 1) := by decide +kernel
theorem xc27_16 : tt_cd 27 16 = (3, .baload, 1) := by decide +kernel
theorem xc27_17 : tt_cd 27 17 = (4, .bipush 24, 2) := by decide +kernel
theorem xc27_19 : tt_cd 27 19 = (2, .ishl, 1) := by decide +kernel
theorem xc27_20 : tt_cd 27 20 = (1, .aload_n 0, 1) := by decide +kernel
theorem xc27_21 : tt_cd 27 21 = (1, .iload_n 1, 1) := by decide +kernel
theorem xc27_22 : tt_cd 27 22 = (2, .iconst 1, 1) := by decide +kernel
theorem xc27_23 : tt_cd 27 23 = (2, .iadd, 1) := by decide +kernel
theorem xc27_24 : tt_cd 27 24 = (3, .baload, 1) := by decide +kernel
theorem xc27_25 : tt_cd 27 25 = (4, .sipush 255, 3) := by decide +kernel
theorem xc27_28 : tt_cd 27 28 = (2, .iand, 1) := by decide +kernel
theorem xc27_29 : tt_cd 27 29 = (4, .bipush 16, 2) := by decide +kernel
theorem xc27_31 : tt_cd 27 31 = (2, .ishl, 1) := by decide +kernel
theorem xc27_32 : tt_cd 27 32 = (2, .ior, 1) := by decide +kernel
theorem xc27_33 : tt_cd 27 33 = (1, .aload_n 0, 1) := by decide +kernel
theorem xc27_34 : tt_cd 27 34 = (1, .iload_n 1, 1) := by decide +kernel
theorem xc27_35 : tt_cd 27 35 = (2, .iconst 2, 1) := by decide +kernel
theorem xc27_36 : tt_cd 27 36 = (2, .iadd, 1) := by decide +kernel
theorem xc27_37 : tt_cd 27 37 = (3, .baload, 1) := by decide +kernel
theorem xc27_38 : tt_cd 27 38 = (4, .sipush 255, 3) := by decide +kernel
theorem xc27_41 : tt_cd 27 41 = (2, .iand, 1) := by decide +kernel
theorem xc27_42 : tt_cd 27 42 = (4, .bipush 8, 2) := by decide +kernel
theorem xc27_44 : tt_cd 27 44 = (2, .ishl, 1) := by decide +kernel
theorem xc27_45 : tt_cd 27 45 = (2, .ior, 1) := by decide +kernel
theorem xc27_46 : tt_cd 27 46 = (1, .aload_n 0, 1) := by decide +kernel
theorem xc27_47 : tt_cd 27 47 = (1, .iload_n 1, 1) := by decide +kernel
theorem xc27_48 : tt_cd 27 48 = (2, .iconst 3, 1) := by decide +kernel
theorem xc27_49 : tt_cd 27 49 = (2, .iadd, 1) := by decide +kernel
theorem xc27_50 : tt_cd 27 50 = (3, .baload, 1) := by decide +kernel
theorem xc27_51 : tt_cd 27 51 = (4, .sipush 255, 3) := by decide +kernel
theorem xc27_54 : tt_cd 27 54 = (2, .iand, 1) := by decide +kernel
theorem xc27_55 : tt_cd 27 55 = (2, .ior, 1) := by decide +kernel
theorem xc27_56 : tt_cd 27 56 = (9, .ireturn, 1) := by decide +kernel
theorem xr27 : tt_mr 27 = 1 := by decide +kernel
theorem xc26_0 : tt_cd 26 0 = (1, .aload_n 0, 1) := by decide +kernel
theorem xc26_1 : tt_cd 26 1 = (3, .getfield 11, 3) := by decide +kernel
theorem xf26_11 : tt_fl 26 11 = (1, 9, 4) := by decide +kernel
theorem xc26_4 : tt_cd 26 4 = (4, .bipush 96, 2) := by decide +kernel
theorem xc26_6 : tt_cd 26 6 = (10, .invokestatic 35, 3) := by decide +kernel
theorem xm26_35 : tt_ml 26 35 = (2, 27, 2) := by decide +kernel
theorem xl27 : tt_mL 27 = 2 := by decide +kernel
theorem xc26_9 : tt_cd 26 9 = (9, .ireturn, 1) := by decide +kernel
theorem xr26 : tt_mr 26 = 1 := by decide +kernel
theorem xc29_0 : tt_cd 29 0 = (1, .aload_n 0, 1) := by decide +kernel
theorem xc29_1 : tt_cd 29 1 = (3, .getfield 11, 3) := by decide +kernel
theorem xf29_11 : tt_fl 29 11 = (1, 9, 4) := by decide +kernel
theorem xc29_4 : tt_cd 29 4 = (4, .bipush 100, 2) := by decide +kernel
theorem xc29_6 : tt_cd 29 6 = (3, .baload, 1) := by decide +kernel
theorem xc29_7 : tt_cd 29 7 = (4, .sipush 255, 3) := by decide +kernel
theorem xc29_10 : tt_cd 29 10 = (2, .iand, 1) := by decide +kernel
theorem xc29_11 : tt_cd 29 11 = (9, .ireturn, 1) := by decide +kernel
theorem xr29 : tt_mr 29 = 1 := by decide +kernel
theorem xc28_0 : tt_cd 28 0 = (1, .aload_n 0, 1) := by decide +kernel
theorem xc28_1 : tt_cd 28 1 = (3, .getfield 32, 3) := by decide +kernel
theorem xf28_32 : tt_fl 28 32 = (1, 9, 2) := by decide +kernel
theorem xc28_4 : tt_cd 28 4 = (2, .iconst 1, 1) := by decide +kernel
theorem xc28_5 : tt_cd 28 5 = (2, .iadd, 1) := by decide +kernel
theorem xc28_6 : tt_cd 28 6 = (2, .iconst 4, 1) := by decide +kernel
theorem xc28_7 : tt_cd 28 7 = (2, .irem, 1) := by decide +kernel
theorem xc28_8 : tt_cd 28 8 = (5, .ifCond .eq 8, 3) := by decide +kernel
theorem xc28_11 : tt_cd 28 11 = (1, .aload_n 0, 1) := by decide +kernel
theorem xc28_12 : tt_cd 28 12 = (10, .invokevirtual 48, 3) := by decide +kernel
theorem xm28_48 : tt_ml 28 48 = (3, 29, 0) := by decide +kernel
theorem xi29 : tt_mci 29 = 9 := by decide +kernel
theorem xl29 : tt_mL 29 = 1 := by decide +kernel
theorem xc28_15 : tt_cd 28 15 = (9, .ireturn, 1) := by decide +kernel
theorem xr28 : tt_mr 28 = 1 := by decide +kernel
theorem xc23_0 : tt_cd 23 0 = (1, .aload_n 0, 1) := by decide +kernel
theorem xc23_1 : tt_cd 23 1 = (3, .getfield 67, 3) := by decide +kernel
theorem xf23_67 : tt_fl 23 67 = (1, 9, 7) := by decide +kernel
theorem xc23_4 : tt_cd 23 4 = (2, .iconst 4, 1) := by decide +kernel
theorem xc23_5 : tt_cd 23 5 = (5, .if_icmp .ge 23, 3) := by decide +kernel
theorem xc23_8 : tt_cd 23 8 = (1, .aload_n 0, 1) := by decide +kernel
theorem xc23_9 : tt_cd 23 9 = (3, .getfield 20, 3) := by decide +kernel
theorem xf23_20 : tt_fl 23 20 = (1, 9, 6) := by decide +kernel
theorem xc23_12 : tt_cd 23 12 = (1, .aload_n 0, 1) := by decide +kernel
theorem xc23_13 : tt_cd 23 13 = (3, .getfield 67, 3) := by decide +kernel
theorem xc23_16 : tt_cd 23 16 = (1, .aload_n 1, 1) := by decide +kernel
theorem xc23_17 : tt_cd 23 17 = (6, .aastore, 1) := by decide +kernel
theorem xc23_18 : tt_cd 23 18 = (1, .aload_n 0, 1) := by decide +kernel
theorem xc23_19 : tt_cd 23 19 = (2, .dup, 1) := by decide +kernel
theorem xc23_20 : tt_cd 23 20 = (3, .getfield 67, 3) := by decide +kernel
theorem xc23_23 : tt_cd 23 23 = (2, .iconst 1, 1) := by decide +kernel
theorem xc23_24 : tt_cd 23 24 = (2, .iadd, 1) := by decide +kernel
theorem xc23_25 : tt_cd 23 25 = (6, .putfield 67, 3) := by decide +kernel
theorem xh23_67 : (!(tt_ffin 9 7) || (tt_ini 23 && Nat.beq 1 1)) = true := by decide +kernel
theorem xt9_7 : tt_fty 9 7 = .int := by decide +kernel
theorem xc23_28 : tt_cd 23 28 = (9, .return_, 1) := by decide +kernel
theorem xr23 : tt_mr 23 = 0 := by decide +kernel
theorem xc8_0 : tt_cd 8 0 = (7, .new 11, 3) := by decide +kernel
theorem xo8_11 : tt_nl 8 11 = (10, 11) := by decide +kernel
theorem xc8_3 : tt_cd 8 3 = (2, .dup, 1) := by decide +kernel
theorem xc8_4 : tt_cd 8 4 = (1, .aload_n 1, 1) := by decide +kernel
theorem xc8_5 : tt_cd 8 5 = (1, .aload_n 0, 1) := by decide +kernel
theorem xc8_6 : tt_cd 8 6 = (3, .getfield 44, 3) := by decide +kernel
theorem xf8_44 : tt_fl 8 44 = (1, 8, 3) := by decide +kernel
theorem xc8_9 : tt_cd 8 9 = (10, .invokespecial 70, 3) := by decide +kernel
theorem xm8_70 : tt_ml 8 70 = (5, 9, 2) := by decide +kernel
theorem xi9 : tt_mci 9 = 9 := by decide +kernel
theorem xl9 : tt_mL 9 = 3 := by decide +kernel
theorem xc8_12 : tt_cd 8 12 = (1, .astore_n 3, 1) := by decide +kernel
theorem xl8 : tt_mL 8 = 4 := by decide +kernel
theorem xc8_13 : tt_cd 8 13 = (1, .aload_n 3, 1) := by decide +kernel
theorem xc8_14 : tt_cd 8 14 = (1, .aload_n 0, 1) := by decide +kernel
theorem xc8_15 : tt_cd 8 15 = (1, .aload_n 0, 1) := by decide +kernel
theorem xc8_16 : tt_cd 8 16 = (3, .getfield 44, 3) := by decide +kernel
theorem xc8_19 : tt_cd 8 19 = (1, .aload_n 2, 1) := by decide +kernel
theorem xc8_20 : tt_cd 8 20 = (10, .invokevirtual 73, 3) := by decide +kernel
theorem xm8_73 : tt_ml 8 73 = (3, 10, 2) := by decide +kernel
theorem xi10 : tt_mci 10 = 8 := by decide +kernel
theorem xc8_23 : tt_cd 8 23 = (10, .invokevirtual 77, 3) := by decide +kernel
theorem xm8_77 : tt_ml 8 77 = (3, 23, 1) := by decide +kernel
theorem xi23 : tt_mci 23 = 9 := by decide +kernel
theorem xl23 : tt_mL 23 = 2 := by decide +kernel
theorem xc8_26 : tt_cd 8 26 = (1, .aload_n 3, 1) := by decide +kernel
theorem xc8_27 : tt_cd 8 27 = (9, .areturn, 1) := by decide +kernel
theorem xr8 : tt_mr 8 = 3 := by decide +kernel
theorem xc64_0 : tt_cd 64 0 = (2, .iconst 0, 1) := by decide +kernel
theorem xc64_1 : tt_cd 64 1 = (1, .istore_n 2, 1) := by decide +kernel
theorem xl64 : tt_mL 64 = 5 := by decide +kernel
theorem xc64_2 : tt_cd 64 2 = (2, .iconst 0, 1) := by decide +kernel
theorem xc64_3 : tt_cd 64 3 = (1, .istore_n 3, 1) := by decide +kernel
theorem xc64_4 : tt_cd 64 4 = (1, .iload_n 3, 1) := by decide +kernel
theorem xc64_5 : tt_cd 64 5 = (1, .aload_n 0, 1) := by decide +kernel
theorem xc64_6 : tt_cd 64 6 = (3, .getfield 59, 3) := by decide +kernel
theorem xf64_59 : tt_fl 64 59 = (1, 8, 5) := by decide +kernel
theorem xc64_9 : tt_cd 64 9 = (5, .if_icmp .ge 55, 3) := by decide +kernel
theorem xc64_64 : tt_cd 64 64 = (1, .aload_n 0, 1) := by decide +kernel
theorem xc64_65 : tt_cd 64 65 = (1, .iload_n 2, 1) := by decide +kernel
theorem xc64_66 : tt_cd 64 66 = (6, .putfield 59, 3) := by decide +kernel
theorem xh64_59 : (!(tt_ffin 8 5) || (tt_ini 64 && Nat.beq 1 1)) = true := by decide +kernel
theorem xt8_5 : tt_fty 8 5 = .int := by decide +kernel
theorem xc64_69 : tt_cd 64 69 = (9, .return_, 1) := by decide +kernel
theorem xr64 : tt_mr 64 = 0 := by decide +kernel
section DD
variable {n : Nat} {pl : Nat → Nat} {w0 w : mv_T 10} {X0 X1 cbs X3 Hd Id Ids Ads Br Dg X10 Sp Sw Ss In Mk Is Os Ks Kp ac su sl kl : Nat}
theorem cd_done  (hw : wh 30 pl w0 w [(0, 1, 13, X0), (0, 8, 11, X1), (3, 6, 40, cbs), (0, 9, 11, X3), (1, 1, 105, Hd), (1, 1, 32, Id), (1, 1, 128, Ids), (1, 1, 480, Ads), (1, 1, 32, Br), (1, 1, 32, Dg), (0, 2, 13, X10), (1, 1, 64, Sp), (1, 0, 64, Sw), (1, 0, 8, Ss), (1, 1, 32, In), (1, 1, 32, Mk), (1, 0, 8, Is), (1, 0, 8, Os), (1, 0, 8, Ks), (1, 1, 64, Kp)]) (hX0 : fh X0 kX [(2, pl 1, 0), (0, 0, 0)]) (hX1 : fh X1 kM [(0, 1, 0), (2, pl 2, 0), (0, 0, 0), (2, pl 10, 0), (2, pl 6, 0), (2, pl 7, 0), (0, ac, 0), (2, pl 8, 0), (2, pl 9, 0)]) (hX3 : fh X3 kB [(2, pl 5, 0), (2, pl 4, 0), (0, 0, 0), (0, 4, 0), (3, 0, 0)]) (hX10 : fh X10 kS [(2, pl 11, 0), (2, pl 12, 0), (2, pl 13, 0), (2, pl 14, 0), (0, su, 0), (0, sl, 0), (2, pl 15, 0), (2, pl 16, 0), (2, pl 17, 0), (0, 1, 0), (2, pl 18, 0), (2, pl 19, 0), (0, kl, 0)])  : sy_D 25 n 0 0 [(2, pl 1, 0)] w (fun ret w' => ret = [(0, 0, 0)] ∧ w' = w) := by
  refine sy_Dof (us := []) (sy_oks_cons (sy_ok2 (wh_lt hw 1 (by first | decide | assumption))) sy_oks_nil) rfl rfl ?_
  show sy_F 25 n 0 0 0 [(2, pl 1, 0)] [] w _
  refine sy_Fs (sy_aldn xc25_0 rfl rfl sy_refl) ?_
  refine sy_Fs (sy_gf xc25_1 xf25_44 rfl (wh_at hw 1 rfl) rfl (fh_at hX1 0 rfl rfl) sy_refl) ?_
  refine sy_Fs (sy_bipush (v := 40) xc25_4 (by decide) (by decide) sy_refl) ?_
  refine sy_Fs (sy_icmplt_t (pc' := 13) xc25_6 (by decide) (by decide) (by decide) (by decide) sy_refl) ?_
  refine sy_Fs (sy_iconst (v := 0) xc25_13 (by decide) sy_refl) ?_
  exact sy_Fz xc25_14 xr25 (by first | decide | assumption | omega) ⟨rfl, rfl⟩
theorem cd_wa  (hw : wh 30 pl w0 w [(0, 1, 13, X0), (0, 8, 11, X1), (3, 6, 40, cbs), (0, 9, 11, X3), (1, 1, 105, Hd), (1, 1, 32, Id), (1, 1, 128, Ids), (1, 1, 480, Ads), (1, 1, 32, Br), (1, 1, 32, Dg), (0, 2, 13, X10), (1, 1, 64, Sp), (1, 0, 64, Sw), (1, 0, 8, Ss), (1, 1, 32, In), (1, 1, 32, Mk), (1, 0, 8, Is), (1, 0, 8, Os), (1, 0, 8, Ks), (1, 1, 64, Kp)]) (hX0 : fh X0 kX [(2, pl 1, 0), (0, 0, 0)]) (hX1 : fh X1 kM [(0, 1, 0), (2, pl 2, 0), (0, 0, 0), (2, pl 10, 0), (2, pl 6, 0), (2, pl 7, 0), (0, ac, 0), (2, pl 8, 0), (2, pl 9, 0)]) (hX3 : fh X3 kB [(2, pl 5, 0), (2, pl 4, 0), (0, 0, 0), (0, 4, 0), (3, 0, 0)]) (hX10 : fh X10 kS [(2, pl 11, 0), (2, pl 12, 0), (2, pl 13, 0), (2, pl 14, 0), (0, su, 0), (0, sl, 0), (2, pl 15, 0), (2, pl 16, 0), (2, pl 17, 0), (0, 1, 0), (2, pl 18, 0), (2, pl 19, 0), (0, kl, 0)]) (ht : ∀ j, j < 4 → mv_rd 32 Hd (96 + j) = 0) : sy_D 27 n 0 0 [(2, pl 4, 0), (0, 96, 0)] w (fun ret w' => ret = [(0, 0, 0)] ∧ w' = w) := by
  refine sy_Dof (us := []) (sy_oks_cons (sy_ok2 (wh_lt hw 4 (by first | decide | assumption))) (sy_oks_cons (sy_ok0 (by first | decide | assumption | omega | exact mo_rd_lt _ _ | exact mo_add_lt _ _ | exact mo_sub_lt _ _ | exact mo_mul_lt _ _ | exact mo_shl_lt _ _ | exact mo_ushr_lt _ _ | exact mo_or_lt (by decide) (mo_and_lt (mo_rd_lt _ _)) | exact mo_or_lt (mo_shl_lt _ _) (mo_and_lt (mo_rd_lt _ _)))) sy_oks_nil)) rfl rfl ?_
  show sy_F 27 n 0 0 0 [(2, pl 4, 0), (0, 96, 0)] [] w _
  refine sy_Fs (sy_ildn xc27_0 rfl rfl sy_refl) ?_
  refine sy_Fs (sy_iflt_f xc27_1 (by decide) (by decide) sy_refl) ?_
  refine sy_Fs (sy_ildn xc27_4 rfl rfl sy_refl) ?_
  refine sy_Fs (sy_aldn xc27_5 rfl rfl sy_refl) ?_
  refine sy_Fs (sy_alen xc27_6 (wh_at hw 4 rfl) rfl sy_refl) ?_
  refine sy_Fs (sy_iconst (v := 4) xc27_7 (by decide) sy_refl) ?_
  refine sy_Fs (sx_isub (z := 101) xc27_8 (by decide)) ?_
  refine sy_Fs (sy_icmple_t (pc' := 14) xc27_9 (by decide) (by decide) (by decide) (by decide) sy_refl) ?_
  refine sy_Fs (sy_aldn xc27_14 rfl rfl sy_refl) ?_
  refine sy_Fs (sy_ildn xc27_15 rfl rfl sy_refl) ?_
  refine sy_Fs (sx_bal (z := 0) xc27_16 (wh_at hw 4 rfl) (by decide) (by decide) (ht 0 (by decide))) ?_
  refine sy_Fs (sy_bipush (v := 24) xc27_17 (by decide) (by decide) sy_refl) ?_
  refine sy_Fs (sx_ishl (z := 0) xc27_19 (by decide)) ?_
  refine sy_Fs (sy_aldn xc27_20 rfl rfl sy_refl) ?_
  refine sy_Fs (sy_ildn xc27_21 rfl rfl sy_refl) ?_
  refine sy_Fs (sy_iconst (v := 1) xc27_22 (by decide) sy_refl) ?_
  refine sy_Fs (sx_iadd (z := 97) xc27_23 (by decide)) ?_
  refine sy_Fs (sx_bal (z := 0) xc27_24 (wh_at hw 4 rfl) (by decide) (by decide) (ht 1 (by decide))) ?_
  refine sy_Fs (sy_sipush (v := 255) xc27_25 (by decide) (by decide) sy_refl) ?_
  refine sy_Fs (sx_iand (z := 0) xc27_28 (by decide)) ?_
  refine sy_Fs (sy_bipush (v := 16) xc27_29 (by decide) (by decide) sy_refl) ?_
  refine sy_Fs (sx_ishl (z := 0) xc27_31 (by decide)) ?_
  refine sy_Fs (sx_ior (z := 0) xc27_32 (by decide)) ?_
  refine sy_Fs (sy_aldn xc27_33 rfl rfl sy_refl) ?_
  refine sy_Fs (sy_ildn xc27_34 rfl rfl sy_refl) ?_
  refine sy_Fs (sy_iconst (v := 2) xc27_35 (by decide) sy_refl) ?_
  refine sy_Fs (sx_iadd (z := 98) xc27_36 (by decide)) ?_
  refine sy_Fs (sx_bal (z := 0) xc27_37 (wh_at hw 4 rfl) (by decide) (by decide) (ht 2 (by decide))) ?_
  refine sy_Fs (sy_sipush (v := 255) xc27_38 (by decide) (by decide) sy_refl) ?_
  refine sy_Fs (sx_iand (z := 0) xc27_41 (by decide)) ?_
  refine sy_Fs (sy_bipush (v := 8) xc27_42 (by decide) (by decide) sy_refl) ?_
  refine sy_Fs (sx_ishl (z := 0) xc27_44 (by decide)) ?_
  refine sy_Fs (sx_ior (z := 0) xc27_45 (by decide)) ?_
  refine sy_Fs (sy_aldn xc27_46 rfl rfl sy_refl) ?_
  refine sy_Fs (sy_ildn xc27_47 rfl rfl sy_refl) ?_
  refine sy_Fs (sy_iconst (v := 3) xc27_48 (by decide) sy_refl) ?_
  refine sy_Fs (sx_iadd (z := 99) xc27_49 (by decide)) ?_
  refine sy_Fs (sx_bal (z := 0) xc27_50 (wh_at hw 4 rfl) (by decide) (by decide) (ht 3 (by decide))) ?_
  refine sy_Fs (sy_sipush (v := 255) xc27_51 (by decide) (by decide) sy_refl) ?_
  refine sy_Fs (sx_iand (z := 0) xc27_54 (by decide)) ?_
  refine sy_Fs (sx_ior (z := 0) xc27_55 (by decide)) ?_
  exact sy_Fi xc27_56 xr27 rfl ⟨rfl, rfl⟩
theorem cd_time  (hw : wh 30 pl w0 w [(0, 1, 13, X0), (0, 8, 11, X1), (3, 6, 40, cbs), (0, 9, 11, X3), (1, 1, 105, Hd), (1, 1, 32, Id), (1, 1, 128, Ids), (1, 1, 480, Ads), (1, 1, 32, Br), (1, 1, 32, Dg), (0, 2, 13, X10), (1, 1, 64, Sp), (1, 0, 64, Sw), (1, 0, 8, Ss), (1, 1, 32, In), (1, 1, 32, Mk), (1, 0, 8, Is), (1, 0, 8, Os), (1, 0, 8, Ks), (1, 1, 64, Kp)]) (hX0 : fh X0 kX [(2, pl 1, 0), (0, 0, 0)]) (hX1 : fh X1 kM [(0, 1, 0), (2, pl 2, 0), (0, 0, 0), (2, pl 10, 0), (2, pl 6, 0), (2, pl 7, 0), (0, ac, 0), (2, pl 8, 0), (2, pl 9, 0)]) (hX3 : fh X3 kB [(2, pl 5, 0), (2, pl 4, 0), (0, 0, 0), (0, 4, 0), (3, 0, 0)]) (hX10 : fh X10 kS [(2, pl 11, 0), (2, pl 12, 0), (2, pl 13, 0), (2, pl 14, 0), (0, su, 0), (0, sl, 0), (2, pl 15, 0), (2, pl 16, 0), (2, pl 17, 0), (0, 1, 0), (2, pl 18, 0), (2, pl 19, 0), (0, kl, 0)]) (ht : ∀ j, j < 4 → mv_rd 32 Hd (96 + j) = 0) : sy_D 26 n 1 21 [(2, pl 3, 0)] w (fun ret w' => ret = [(0, 0, 0)] ∧ w' = w) := by
  refine sy_Dof (us := []) (sy_oks_cons (sy_ok2 (wh_lt hw 3 (by first | decide | assumption))) sy_oks_nil) rfl rfl ?_
  show sy_F 26 n 1 21 0 [(2, pl 3, 0)] [] w _
  refine sy_Fs (sy_aldn xc26_0 rfl rfl sy_refl) ?_
  refine sy_Fs (sy_gf xc26_1 xf26_11 rfl (wh_at hw 3 rfl) rfl (fh_at hX3 1 rfl rfl) sy_refl) ?_
  refine sy_Fs (sy_bipush (v := 96) xc26_4 (by decide) (by decide) sy_refl) ?_
  refine sy_Fs (sy_callG (kd := 2) (as := [(2, pl 4, 0), (0, 96, 0)]) (S0 := []) (ret := [(0, 0, 0)]) xc26_6 (sy_calS (as := [(2, pl 4, 0), (0, 96, 0)]) (S0 := []) xm26_35 rfl rfl) rfl rfl rfl rfl (sy_oka (sy_oks_cons (sy_ok2 (wh_lt hw 4 (by first | decide | assumption))) (sy_oks_cons (sy_ok0 (by first | decide | assumption | omega | exact mo_rd_lt _ _ | exact mo_add_lt _ _ | exact mo_sub_lt _ _ | exact mo_mul_lt _ _ | exact mo_shl_lt _ _ | exact mo_ushr_lt _ _ | exact mo_or_lt (by decide) (mo_and_lt (mo_rd_lt _ _)) | exact mo_or_lt (mo_shl_lt _ _) (mo_and_lt (mo_rd_lt _ _)))) sy_oks_nil)) rfl xl27) (sy_Cw (cd_wa hw hX0 hX1 hX3 hX10 ht)) (by decide) (by rw [xl27]; decide) sy_refl) ?_
  exact sy_Fi xc26_9 xr26 rfl ⟨rfl, rfl⟩
theorem cd_bits  (hw : wh 30 pl w0 w [(0, 1, 13, X0), (0, 8, 11, X1), (3, 6, 40, cbs), (0, 9, 11, X3), (1, 1, 105, Hd), (1, 1, 32, Id), (1, 1, 128, Ids), (1, 1, 480, Ads), (1, 1, 32, Br), (1, 1, 32, Dg), (0, 2, 13, X10), (1, 1, 64, Sp), (1, 0, 64, Sw), (1, 0, 8, Ss), (1, 1, 32, In), (1, 1, 32, Mk), (1, 0, 8, Is), (1, 0, 8, Os), (1, 0, 8, Ks), (1, 1, 64, Kp)]) (hX0 : fh X0 kX [(2, pl 1, 0), (0, 0, 0)]) (hX1 : fh X1 kM [(0, 1, 0), (2, pl 2, 0), (0, 0, 0), (2, pl 10, 0), (2, pl 6, 0), (2, pl 7, 0), (0, ac, 0), (2, pl 8, 0), (2, pl 9, 0)]) (hX3 : fh X3 kB [(2, pl 5, 0), (2, pl 4, 0), (0, 0, 0), (0, 4, 0), (3, 0, 0)]) (hX10 : fh X10 kS [(2, pl 11, 0), (2, pl 12, 0), (2, pl 13, 0), (2, pl 14, 0), (0, su, 0), (0, sl, 0), (2, pl 15, 0), (2, pl 16, 0), (2, pl 17, 0), (0, 1, 0), (2, pl 18, 0), (2, pl 19, 0), (0, kl, 0)]) (hd : mv_rd 32 Hd 100 = 2) : sy_D 29 n 0 0 [(2, pl 3, 0)] w (fun ret w' => ret = [(0, 2, 0)] ∧ w' = w) := by
  refine sy_Dof (us := []) (sy_oks_cons (sy_ok2 (wh_lt hw 3 (by first | decide | assumption))) sy_oks_nil) rfl rfl ?_
  show sy_F 29 n 0 0 0 [(2, pl 3, 0)] [] w _
  refine sy_Fs (sy_aldn xc29_0 rfl rfl sy_refl) ?_
  refine sy_Fs (sy_gf xc29_1 xf29_11 rfl (wh_at hw 3 rfl) rfl (fh_at hX3 1 rfl rfl) sy_refl) ?_
  refine sy_Fs (sy_bipush (v := 100) xc29_4 (by decide) (by decide) sy_refl) ?_
  refine sy_Fs (sx_bal (z := 2) xc29_6 (wh_at hw 4 rfl) (by decide) (by decide) hd) ?_
  refine sy_Fs (sy_sipush (v := 255) xc29_7 (by decide) (by decide) sy_refl) ?_
  refine sy_Fs (sx_iand (z := 2) xc29_10 (by decide)) ?_
  exact sy_Fi xc29_11 xr29 rfl ⟨rfl, rfl⟩
theorem cd_bn  (hw : wh 30 pl w0 w [(0, 1, 13, X0), (0, 8, 11, X1), (3, 6, 40, cbs), (0, 9, 11, X3), (1, 1, 105, Hd), (1, 1, 32, Id), (1, 1, 128, Ids), (1, 1, 480, Ads), (1, 1, 32, Br), (1, 1, 32, Dg), (0, 2, 13, X10), (1, 1, 64, Sp), (1, 0, 64, Sw), (1, 0, 8, Ss), (1, 1, 32, In), (1, 1, 32, Mk), (1, 0, 8, Is), (1, 0, 8, Os), (1, 0, 8, Ks), (1, 1, 64, Kp)]) (hX0 : fh X0 kX [(2, pl 1, 0), (0, 0, 0)]) (hX1 : fh X1 kM [(0, 1, 0), (2, pl 2, 0), (0, 0, 0), (2, pl 10, 0), (2, pl 6, 0), (2, pl 7, 0), (0, ac, 0), (2, pl 8, 0), (2, pl 9, 0)]) (hX3 : fh X3 kB [(2, pl 5, 0), (2, pl 4, 0), (0, 0, 0), (0, 4, 0), (3, 0, 0)]) (hX10 : fh X10 kS [(2, pl 11, 0), (2, pl 12, 0), (2, pl 13, 0), (2, pl 14, 0), (0, su, 0), (0, sl, 0), (2, pl 15, 0), (2, pl 16, 0), (2, pl 17, 0), (0, 1, 0), (2, pl 18, 0), (2, pl 19, 0), (0, kl, 0)]) (hd : mv_rd 32 Hd 100 = 2) : sy_D 28 n 1 20 [(2, pl 3, 0)] w (fun ret w' => ret = [(0, 2, 0)] ∧ w' = w) := by
  refine sy_Dof (us := [(255, 0, 0), (255, 0, 0)]) (sy_oks_cons (sy_ok2 (wh_lt hw 3 (by first | decide | assumption))) sy_oks_nil) rfl rfl ?_
  show sy_F 28 n 1 20 0 [(2, pl 3, 0), (255, 0, 0), (255, 0, 0)] [] w _
  refine sy_Fs (sy_aldn xc28_0 rfl rfl sy_refl) ?_
  refine sy_Fs (sy_gf xc28_1 xf28_32 rfl (wh_at hw 3 rfl) rfl (fh_at hX3 2 rfl rfl) sy_refl) ?_
  refine sy_Fs (sy_iconst (v := 1) xc28_4 (by decide) sy_refl) ?_
  refine sy_Fs (sx_iadd (z := 1) xc28_5 (by decide)) ?_
  refine sy_Fs (sy_iconst (v := 4) xc28_6 (by decide) sy_refl) ?_
  refine sy_Fs (sx_irem (z := 1) xc28_7 (by decide) (by decide)) ?_
  refine sy_Fs (sy_ifeq_f xc28_8 (by decide) (by decide) (by decide) sy_refl) ?_
  refine sy_Fs (sy_aldn xc28_11 rfl rfl sy_refl) ?_
  refine sy_Fs (sy_callG (kd := 3) (as := [(2, pl 3, 0)]) (S0 := []) (ret := [(0, 2, 0)]) xc28_12 (sy_calV (as := [(2, pl 3, 0)]) (S0 := []) xm28_48 rfl rfl) rfl rfl (sy_rcvm xi29 (wh_at hw 3 rfl)) rfl (sy_oka (sy_oks_cons (sy_ok2 (wh_lt hw 3 (by first | decide | assumption))) sy_oks_nil) rfl xl29) (sy_Cw (cd_bits hw hX0 hX1 hX3 hX10 hd)) (by decide) (by rw [xl29]; decide) sy_refl) ?_
  exact sy_Fi xc28_15 xr28 rfl ⟨rfl, rfl⟩
theorem cd_ap {X20 Bh Bd cps Mb Ti X26 Pr wk : Nat} (hw : wh 30 pl w0 w [(0, 1, 13, X0), (0, 8, 11, X1), (3, 6, 40, cbs), (0, 9, 11, X3), (1, 1, 105, Hd), (1, 1, 32, Id), (1, 1, 128, Ids), (1, 1, 480, Ads), (1, 1, 32, Br), (1, 1, 32, Dg), (0, 2, 13, X10), (1, 1, 64, Sp), (1, 0, 64, Sw), (1, 0, 8, Ss), (1, 1, 32, In), (1, 1, 32, Mk), (1, 0, 8, Is), (1, 0, 8, Os), (1, 0, 8, Ks), (1, 1, 64, Kp), (0, 9, 11, X20), (1, 1, 105, Bh), (1, 1, 32, Bd), (3, 7, 4, cps), (1, 1, 28, Mb), (1, 1, 32, Ti), (0, 10, 6, X26), (1, 0, 4, Pr)]) (hX0 : fh X0 kX [(2, pl 1, 0), (0, 0, 0)]) (hX1 : fh X1 kM [(0, 1, 0), (2, pl 2, 0), (0, 0, 0), (2, pl 10, 0), (2, pl 6, 0), (2, pl 7, 0), (0, ac, 0), (2, pl 8, 0), (2, pl 9, 0)]) (hX3 : fh X3 kB [(2, pl 5, 0), (2, pl 4, 0), (0, 0, 0), (0, 4, 0), (3, 0, 0)]) (hX10 : fh X10 kS [(2, pl 11, 0), (2, pl 12, 0), (2, pl 13, 0), (2, pl 14, 0), (0, su, 0), (0, sl, 0), (2, pl 15, 0), (2, pl 16, 0), (2, pl 17, 0), (0, 1, 0), (2, pl 18, 0), (2, pl 19, 0), (0, kl, 0)]) (hX20 : fh X20 kN [(2, pl 3, 0), (0, 1, 0), (0, 1, 0), (0, wk, 0), (2, pl 21, 0), (2, pl 22, 0), (2, pl 23, 0), (0, 0, 0), (3, 0, 0), (0, 0, 0), (3, 0, 0)]) (hX26 : fh X26 kP [(2, pl 24, 0), (0, 0, 0), (0, 1, 0), (0, 28, 0), (2, pl 25, 0), (2, pl 27, 0)])  : sy_D 23 n 0 0 [(2, pl 20, 0), (2, pl 26, 0)] w (fun ret w' => ret = [] ∧ ∃ Y20 : Nat, wh 30 pl w0 w' [(0, 1, 13, X0), (0, 8, 11, X1), (3, 6, 40, cbs), (0, 9, 11, X3), (1, 1, 105, Hd), (1, 1, 32, Id), (1, 1, 128, Ids), (1, 1, 480, Ads), (1, 1, 32, Br), (1, 1, 32, Dg), (0, 2, 13, X10), (1, 1, 64, Sp), (1, 0, 64, Sw), (1, 0, 8, Ss), (1, 1, 32, In), (1, 1, 32, Mk), (1, 0, 8, Is), (1, 0, 8, Os), (1, 0, 8, Ks), (1, 1, 64, Kp), (0, 9, 11, Y20), (1, 1, 105, Bh), (1, 1, 32, Bd), (3, 7, 4, (mv_wr 32 cps 0 (pl 26 + 1))), (1, 1, 28, Mb), (1, 1, 32, Ti), (0, 10, 6, X26), (1, 0, 4, Pr)] ∧ fh Y20 kN [(2, pl 3, 0), (0, 1, 0), (0, 1, 0), (0, wk, 0), (2, pl 21, 0), (2, pl 22, 0), (2, pl 23, 0), (0, 1, 0), (3, 0, 0), (0, 0, 0), (3, 0, 0)]) := by
  refine sy_Dof (us := []) (sy_oks_cons (sy_ok2 (wh_lt hw 20 (by first | decide | assumption))) (sy_oks_cons (sy_ok2 (wh_lt hw 26 (by first | decide | assumption))) sy_oks_nil)) rfl rfl ?_
  show sy_F 23 n 0 0 0 [(2, pl 20, 0), (2, pl 26, 0)] [] w _
  refine sy_Fs (sy_aldn xc23_0 rfl rfl sy_refl) ?_
  refine sy_Fs (sy_gf xc23_1 xf23_67 rfl (wh_at hw 20 rfl) rfl (fh_at hX20 7 rfl rfl) sy_refl) ?_
  refine sy_Fs (sy_iconst (v := 4) xc23_4 (by decide) sy_refl) ?_
  refine sy_Fs (sy_ge_f xc23_5 (by decide) (by decide) (by decide) sy_refl) ?_
  refine sy_Fs (sy_aldn xc23_8 rfl rfl sy_refl) ?_
  refine sy_Fs (sy_gf xc23_9 xf23_20 rfl (wh_at hw 20 rfl) rfl (fh_at hX20 6 rfl rfl) sy_refl) ?_
  refine sy_Fs (sy_aldn xc23_12 rfl rfl sy_refl) ?_
  refine sy_Fs (sy_gf xc23_13 xf23_67 rfl (wh_at hw 20 rfl) rfl (fh_at hX20 7 rfl rfl) sy_refl) ?_
  refine sy_Fs (sy_aldn xc23_16 rfl rfl sy_refl) ?_
  refine sy_Fw (i := 23) (x := (3, 7, 4, (mv_wr 32 cps 0 (pl 26 + 1)))) hw (by decide) (sx_aas (i := 0) xc23_17 (wh_at hw 23 rfl) (wh_at hw 26 rfl) cg_tP rfl rfl (by decide) (by decide) rfl sy_refl) ?_
  intro w hw
  simp only [List.set_cons_zero, List.set_cons_succ] at hw
  refine sy_Fs (sy_aldn xc23_18 rfl rfl sy_refl) ?_
  refine sy_Fs (sy_dup xc23_19 rfl sy_refl) ?_
  refine sy_Fs (sy_gf xc23_20 xf23_67 rfl (wh_at hw 20 rfl) rfl (fh_at hX20 7 rfl rfl) sy_refl) ?_
  refine sy_Fs (sy_iconst (v := 1) xc23_23 (by decide) sy_refl) ?_
  refine sy_Fs (sx_iadd (z := 1) xc23_24 (by decide)) ?_
  refine sy_Ff (i := 20) (q := 7) (v := (0, 1, 0)) hw hX20 (by decide) (by decide) rfl (sy_ok0 (by first | decide | assumption | omega | exact mo_rd_lt _ _ | exact mo_add_lt _ _ | exact mo_sub_lt _ _ | exact mo_mul_lt _ _ | exact mo_shl_lt _ _ | exact mo_ushr_lt _ _ | exact mo_or_lt (by decide) (mo_and_lt (mo_rd_lt _ _)) | exact mo_or_lt (mo_shl_lt _ _) (mo_and_lt (mo_rd_lt _ _)))) (sx_pf xc23_25 xf23_67 rfl (xg_int xt9_7) xh23_67 (wh_at hw 20 rfl) rfl (sy_ok0 (by first | decide | assumption | omega | exact mo_rd_lt _ _ | exact mo_add_lt _ _ | exact mo_sub_lt _ _ | exact mo_mul_lt _ _ | exact mo_shl_lt _ _ | exact mo_ushr_lt _ _ | exact mo_or_lt (by decide) (mo_and_lt (mo_rd_lt _ _)) | exact mo_or_lt (mo_shl_lt _ _) (mo_and_lt (mo_rd_lt _ _)))) rfl sy_refl) ?_
  intro w X20 hw hX20
  simp only [List.set_cons_zero, List.set_cons_succ] at hw hX20
  exact sy_Fv xc23_28 xr23 ⟨rfl, X20, hw, hX20⟩
theorem cd_begin (hw : wh 30 pl w0 w [(0, 1, 13, X0), (0, 8, 11, X1), (3, 6, 40, cbs), (0, 9, 11, X3), (1, 1, 105, Hd), (1, 1, 32, Id), (1, 1, 128, Ids), (1, 1, 480, Ads), (1, 1, 32, Br), (1, 1, 32, Dg), (0, 2, 13, X10), (1, 1, 64, Sp), (1, 0, 64, Sw), (1, 0, 8, Ss), (1, 1, 32, In), (1, 1, 32, Mk), (1, 0, 8, Is), (1, 0, 8, Os), (1, 0, 8, Ks), (1, 1, 64, Kp)]) (hX0 : fh X0 kX [(2, pl 1, 0), (0, 0, 0)]) (hX1 : fh X1 kM [(0, 1, 0), (2, pl 2, 0), (0, 0, 0), (2, pl 10, 0), (2, pl 6, 0), (2, pl 7, 0), (0, ac, 0), (2, pl 8, 0), (2, pl 9, 0)]) (hX3 : fh X3 kB [(2, pl 5, 0), (2, pl 4, 0), (0, 0, 0), (0, 4, 0), (3, 0, 0)]) (hX10 : fh X10 kS [(2, pl 11, 0), (2, pl 12, 0), (2, pl 13, 0), (2, pl 14, 0), (0, su, 0), (0, sl, 0), (2, pl 15, 0), (2, pl 16, 0), (2, pl 17, 0), (0, 1, 0), (2, pl 18, 0), (2, pl 19, 0), (0, kl, 0)]) (hp20 : pl 20 + 1 = pl 21) (hp21 : pl 21 + 1 = pl 22) (hp22 : pl 22 + 1 = pl 23) (hp23 : pl 23 + 1 = pl 24) (hp24 : pl 24 + 1 = pl 25) (hp25 : pl 25 + 1 = pl 26) (hp26 : pl 26 + 1 = pl 27) (hp27 : pl 27 + 1 = pl 28) (hp28 : pl 28 + 1 = pl 29) (hp29 : pl 29 + 1 = pl 30)  : ∃ ret n' w' dc ds, (ret = [(2, pl 20, 0)] ∧ n' = pl 28 ∧ dc = 8 ∧ ds = 222 ∧ ∃ X10 P1 W1 S1 I1 T1 X20 X26 u1 l1 : Nat, (mv_ab T1 0 32 = true ∧ u1 < 64 ∧ l1 < 4294967296) ∧ wh 30 pl w0 w' [(0, 1, 13, X0), (0, 8, 11, X1), (3, 6, 40, cbs), (0, 9, 11, X3), (1, 1, 105, Hd), (1, 1, 32, Id), (1, 1, 128, Ids), (1, 1, 480, Ads), (1, 1, 32, Br), (1, 1, 32, Dg), (0, 2, 13, X10), (1, 1, 64, P1), (1, 0, 64, W1), (1, 0, 8, S1), (1, 1, 32, I1), (1, 1, 32, Mk), (1, 0, 8, Is), (1, 0, 8, Os), (1, 0, 8, Ks), (1, 1, 64, Kp), (0, 9, 11, X20), (1, 1, 105, 0), (1, 1, 32, 0), (3, 7, 4, (mv_wr 32 0 0 (pl 26 + 1))), (1, 1, 28, mb), (1, 1, 32, T1), (0, 10, 6, X26), (1, 0, 4, 0)] ∧ fh X10 kS [(2, pl 11, 0), (2, pl 12, 0), (2, pl 13, 0), (2, pl 14, 0), (0, u1, 0), (0, l1, 0), (2, pl 15, 0), (2, pl 16, 0), (2, pl 17, 0), (0, 1, 0), (2, pl 18, 0), (2, pl 19, 0), (0, kl, 0)] ∧ fh X20 kN [(2, pl 3, 0), (0, 1, 0), (0, 1, 0), (0, 0, 0), (2, pl 21, 0), (2, pl 22, 0), (2, pl 23, 0), (0, 1, 0), (3, 0, 0), (0, 0, 0), (3, 0, 0)] ∧ fh X26 kP [(2, pl 24, 0), (0, 0, 0), (0, 1, 0), (0, 28, 0), (2, pl 25, 0), (2, pl 27, 0)]) ∧ sy_B 8 (pl 20) 7 161 [(2, pl 1, 0), (2, pl 3, 0), (6, 0, 0)] w ret n' w' dc ds := by
  have key : sy_A 8 (pl 20) 7 161 0 [(2, pl 1, 0), (2, pl 3, 0), (6, 0, 0), (255, 0, 0)] [] w (fun ret n' w' dc ds => ret = [(2, pl 20, 0)] ∧ n' = pl 28 ∧ dc = 8 ∧ ds = 222 ∧ ∃ X10 P1 W1 S1 I1 T1 X20 X26 u1 l1 : Nat, (mv_ab T1 0 32 = true ∧ u1 < 64 ∧ l1 < 4294967296) ∧ wh 30 pl w0 w' [(0, 1, 13, X0), (0, 8, 11, X1), (3, 6, 40, cbs), (0, 9, 11, X3), (1, 1, 105, Hd), (1, 1, 32, Id), (1, 1, 128, Ids), (1, 1, 480, Ads), (1, 1, 32, Br), (1, 1, 32, Dg), (0, 2, 13, X10), (1, 1, 64, P1), (1, 0, 64, W1), (1, 0, 8, S1), (1, 1, 32, I1), (1, 1, 32, Mk), (1, 0, 8, Is), (1, 0, 8, Os), (1, 0, 8, Ks), (1, 1, 64, Kp), (0, 9, 11, X20), (1, 1, 105, 0), (1, 1, 32, 0), (3, 7, 4, (mv_wr 32 0 0 (pl 26 + 1))), (1, 1, 28, mb), (1, 1, 32, T1), (0, 10, 6, X26), (1, 0, 4, 0)] ∧ fh X10 kS [(2, pl 11, 0), (2, pl 12, 0), (2, pl 13, 0), (2, pl 14, 0), (0, u1, 0), (0, l1, 0), (2, pl 15, 0), (2, pl 16, 0), (2, pl 17, 0), (0, 1, 0), (2, pl 18, 0), (2, pl 19, 0), (0, kl, 0)] ∧ fh X20 kN [(2, pl 3, 0), (0, 1, 0), (0, 1, 0), (0, 0, 0), (2, pl 21, 0), (2, pl 22, 0), (2, pl 23, 0), (0, 1, 0), (3, 0, 0), (0, 0, 0), (3, 0, 0)] ∧ fh X26 kP [(2, pl 24, 0), (0, 0, 0), (0, 1, 0), (0, 28, 0), (2, pl 25, 0), (2, pl 27, 0)]) := by
    refine ap_o (K := 20) hw rfl (by decide) hp20 xc8_0 xo8_11 ?_
    intro w hw
    simp only [List.cons_append, List.nil_append] at hw
    have hX20 := kN_0
    refine sy_As (sy_dup xc8_3 rfl sy_refl) ?_
    refine sy_As (sy_aldn xc8_4 rfl rfl sy_refl) ?_
    refine sy_As (sy_aldn xc8_5 rfl rfl sy_refl) ?_
    refine sy_As (sy_gf xc8_6 xf8_44 rfl (wh_at hw 1 rfl) rfl (fh_at hX1 0 rfl rfl) sy_refl) ?_
    obtain ⟨ret, n1, w, dc1, ds1, ⟨rfl, rfl, rfl, rfl, X20, hw1, hX1x⟩, hB⟩ := cd_bi hw hX0 hX1 hX3 hX10 hX20 hp20 hp21 hp22 hp23 hp24 hp25 hp26 hp27 hp28 hp29
    refine sy_Acall (kd := 5) (as := [(2, pl 20, 0), (2, pl 3, 0), (0, 1, 0)]) (S0 := [(2, pl 20, 0)]) (ret := []) xc8_9 (sy_calI (as := [(2, pl 20, 0), (2, pl 3, 0), (0, 1, 0)]) (S0 := [(2, pl 20, 0)]) xm8_70 rfl rfl) rfl rfl (sy_rcvm xi9 (wh_at hw 20 rfl)) rfl (sy_oka (sy_oks_cons (sy_ok2 (wh_lt hw 20 (by first | decide | assumption))) (sy_oks_cons (sy_ok2 (wh_lt hw 3 (by first | decide | assumption))) (sy_oks_cons (sy_ok0 (by first | decide | assumption | omega | exact mo_rd_lt _ _ | exact mo_add_lt _ _ | exact mo_sub_lt _ _ | exact mo_mul_lt _ _ | exact mo_shl_lt _ _ | exact mo_ushr_lt _ _ | exact mo_or_lt (by decide) (mo_and_lt (mo_rd_lt _ _)) | exact mo_or_lt (mo_shl_lt _ _) (mo_and_lt (mo_rd_lt _ _)))) sy_oks_nil))) rfl xl9) hB (by decide) (by rw [xl9]; decide) ?_
    simp only [List.nil_append, List.cons_append]
    replace hw := hw1
    replace hX20 := hX1x
    refine sy_As (sx_astn (j := 3) (ls' := [(2, pl 1, 0), (2, pl 3, 0), (6, 0, 0), (2, pl 20, 0)]) xc8_12 rfl rfl (sy_ok2 (wh_lt hw 20 (by first | decide | assumption))) (by rw [xl8]; rfl) rfl rfl) ?_
    refine sy_As (sy_aldn xc8_13 rfl rfl sy_refl) ?_
    refine sy_As (sy_aldn xc8_14 rfl rfl sy_refl) ?_
    refine sy_As (sy_aldn xc8_15 rfl rfl sy_refl) ?_
    refine sy_As (sy_gf xc8_16 xf8_44 rfl (wh_at hw 1 rfl) rfl (fh_at hX1 0 rfl rfl) sy_refl) ?_
    refine sy_As (sy_aldn xc8_19 rfl rfl sy_refl) ?_
    obtain ⟨ret, n1, w, dc1, ds1, ⟨rfl, rfl, rfl, rfl, X10, P1, W1, S1, I1, T1, X26, u1, l1, hT1, hw1, hX10x, hX26⟩, hB⟩ := cd_mm hw hX0 hX1 hX3 hX10 hX20 hp20 hp21 hp22 hp23 hp24 hp25 hp26 hp27 hp28 hp29
    refine sy_Acall (kd := 3) (as := [(2, pl 1, 0), (0, 1, 0), (6, 0, 0)]) (S0 := [(2, pl 20, 0)]) (ret := [(2, pl 26, 0)]) xc8_20 (sy_calV (as := [(2, pl 1, 0), (0, 1, 0), (6, 0, 0)]) (S0 := [(2, pl 20, 0)]) xm8_73 rfl rfl) rfl rfl (sy_rcvm xi10 (wh_at hw 1 rfl)) rfl (sy_oka (sy_oks_cons (sy_ok2 (wh_lt hw 1 (by first | decide | assumption))) (sy_oks_cons (sy_ok0 (by first | decide | assumption | omega | exact mo_rd_lt _ _ | exact mo_add_lt _ _ | exact mo_sub_lt _ _ | exact mo_mul_lt _ _ | exact mo_shl_lt _ _ | exact mo_ushr_lt _ _ | exact mo_or_lt (by decide) (mo_and_lt (mo_rd_lt _ _)) | exact mo_or_lt (mo_shl_lt _ _) (mo_and_lt (mo_rd_lt _ _)))) (sy_oks_cons (by decide) sy_oks_nil))) rfl xl10) hB (by decide) (by rw [xl10]; decide) ?_
    simp only [List.nil_append, List.cons_append]
    replace hw := hw1
    replace hX10 := hX10x
    obtain ⟨ret, w, ⟨rfl, X20, hw1, hX1x⟩, hC⟩ := cd_ap (n := pl 28) hw hX0 hX1 hX3 hX10 hX20 hX26
    refine sy_As (sy_callG (kd := 3) (as := [(2, pl 20, 0), (2, pl 26, 0)]) (S0 := []) (ret := []) xc8_23 (sy_calV (as := [(2, pl 20, 0), (2, pl 26, 0)]) (S0 := []) xm8_77 rfl rfl) rfl rfl (sy_rcvm xi23 (wh_at hw 20 rfl)) rfl (sy_oka (sy_oks_cons (sy_ok2 (wh_lt hw 20 (by first | decide | assumption))) (sy_oks_cons (sy_ok2 (wh_lt hw 26 (by first | decide | assumption))) sy_oks_nil)) rfl xl23) hC (by decide) (by rw [xl23]; decide) sy_refl) ?_
    replace hw := hw1
    replace hX20 := hX1x
    refine sy_As (sy_aldn xc8_26 rfl rfl sy_refl) ?_
    exact sy_Aa xc8_27 xr8 rfl ⟨rfl, rfl, rfl, rfl, X10, P1, W1, S1, I1, T1, X20, X26, u1, l1, hT1, hw, hX10, hX20, hX26⟩
  exact sy_Aof (us := [(255, 0, 0)]) (sy_oks_cons (sy_ok2 (wh_lt hw 1 (by first | decide | assumption))) (sy_oks_cons (sy_ok2 (wh_lt hw 3 (by first | decide | assumption))) (sy_oks_cons (by decide) sy_oks_nil))) rfl rfl key
theorem cd_tg {X20 Bh Bd cps Mb Ti X26 Pr wk : Nat} (hw : wh 30 pl w0 w [(0, 1, 13, X0), (0, 8, 11, X1), (3, 6, 40, cbs), (0, 9, 11, X3), (1, 1, 105, Hd), (1, 1, 32, Id), (1, 1, 128, Ids), (1, 1, 480, Ads), (1, 1, 32, Br), (1, 1, 32, Dg), (0, 2, 13, X10), (1, 1, 64, Sp), (1, 0, 64, Sw), (1, 0, 8, Ss), (1, 1, 32, In), (1, 1, 32, Mk), (1, 0, 8, Is), (1, 0, 8, Os), (1, 0, 8, Ks), (1, 1, 64, Kp), (0, 9, 11, X20), (1, 1, 105, Bh), (1, 1, 32, Bd), (3, 7, 4, cps), (1, 1, 28, Mb), (1, 1, 32, Ti), (0, 10, 6, X26), (1, 0, 4, Pr)]) (hX0 : fh X0 kX [(2, pl 1, 0), (0, 0, 0)]) (hX1 : fh X1 kM [(0, 1, 0), (2, pl 2, 0), (0, 0, 0), (2, pl 10, 0), (2, pl 6, 0), (2, pl 7, 0), (0, ac, 0), (2, pl 8, 0), (2, pl 9, 0)]) (hX3 : fh X3 kB [(2, pl 5, 0), (2, pl 4, 0), (0, 0, 0), (0, 4, 0), (3, 0, 0)]) (hX10 : fh X10 kS [(2, pl 11, 0), (2, pl 12, 0), (2, pl 13, 0), (2, pl 14, 0), (0, su, 0), (0, sl, 0), (2, pl 15, 0), (2, pl 16, 0), (2, pl 17, 0), (0, 1, 0), (2, pl 18, 0), (2, pl 19, 0), (0, kl, 0)]) (hX20 : fh X20 kN [(2, pl 3, 0), (0, 1, 0), (0, 1, 0), (0, wk, 0), (2, pl 21, 0), (2, pl 22, 0), (2, pl 23, 0), (0, 1, 0), (3, 0, 0), (0, 0, 0), (3, 0, 0)]) (hX26 : fh X26 kP [(2, pl 24, 0), (0, 0, 0), (0, 1, 0), (0, 28, 0), (2, pl 25, 0), (2, pl 27, 0)])  : sy_D 64 n 0 0 [(2, pl 1, 0), (2, pl 20, 0)] w (fun ret w' => ret = [] ∧ ∃ Y1 : Nat, wh 30 pl w0 w' [(0, 1, 13, X0), (0, 8, 11, Y1), (3, 6, 40, cbs), (0, 9, 11, X3), (1, 1, 105, Hd), (1, 1, 32, Id), (1, 1, 128, Ids), (1, 1, 480, Ads), (1, 1, 32, Br), (1, 1, 32, Dg), (0, 2, 13, X10), (1, 1, 64, Sp), (1, 0, 64, Sw), (1, 0, 8, Ss), (1, 1, 32, In), (1, 1, 32, Mk), (1, 0, 8, Is), (1, 0, 8, Os), (1, 0, 8, Ks), (1, 1, 64, Kp), (0, 9, 11, X20), (1, 1, 105, Bh), (1, 1, 32, Bd), (3, 7, 4, cps), (1, 1, 28, Mb), (1, 1, 32, Ti), (0, 10, 6, X26), (1, 0, 4, Pr)] ∧ fh Y1 kM [(0, 1, 0), (2, pl 2, 0), (0, 0, 0), (2, pl 10, 0), (2, pl 6, 0), (2, pl 7, 0), (0, ac, 0), (2, pl 8, 0), (2, pl 9, 0)]) := by
  refine sy_Dof (us := [(255, 0, 0), (255, 0, 0), (255, 0, 0)]) (sy_oks_cons (sy_ok2 (wh_lt hw 1 (by first | decide | assumption))) (sy_oks_cons (sy_ok2 (wh_lt hw 20 (by first | decide | assumption))) sy_oks_nil)) rfl rfl ?_
  show sy_F 64 n 0 0 0 [(2, pl 1, 0), (2, pl 20, 0), (255, 0, 0), (255, 0, 0), (255, 0, 0)] [] w _
  refine sy_Fs (sy_iconst (v := 0) xc64_0 (by decide) sy_refl) ?_
  refine sy_Fs (sx_istn (j := 2) (ls' := [(2, pl 1, 0), (2, pl 20, 0), (0, 0, 0), (255, 0, 0), (255, 0, 0)]) xc64_1 rfl rfl (sy_ok0 (by first | decide | assumption | omega | exact mo_rd_lt _ _ | exact mo_add_lt _ _ | exact mo_sub_lt _ _ | exact mo_mul_lt _ _ | exact mo_shl_lt _ _ | exact mo_ushr_lt _ _ | exact mo_or_lt (by decide) (mo_and_lt (mo_rd_lt _ _)) | exact mo_or_lt (mo_shl_lt _ _) (mo_and_lt (mo_rd_lt _ _)))) (by rw [xl64]; rfl) rfl rfl) ?_
  refine sy_Fs (sy_iconst (v := 0) xc64_2 (by decide) sy_refl) ?_
  refine sy_Fs (sx_istn (j := 3) (ls' := [(2, pl 1, 0), (2, pl 20, 0), (0, 0, 0), (0, 0, 0), (255, 0, 0)]) xc64_3 rfl rfl (sy_ok0 (by first | decide | assumption | omega | exact mo_rd_lt _ _ | exact mo_add_lt _ _ | exact mo_sub_lt _ _ | exact mo_mul_lt _ _ | exact mo_shl_lt _ _ | exact mo_ushr_lt _ _ | exact mo_or_lt (by decide) (mo_and_lt (mo_rd_lt _ _)) | exact mo_or_lt (mo_shl_lt _ _) (mo_and_lt (mo_rd_lt _ _)))) (by rw [xl64]; rfl) rfl rfl) ?_
  refine sy_Fs (sy_ildn xc64_4 rfl rfl sy_refl) ?_
  refine sy_Fs (sy_aldn xc64_5 rfl rfl sy_refl) ?_
  refine sy_Fs (sy_gf xc64_6 xf64_59 rfl (wh_at hw 1 rfl) rfl (fh_at hX1 2 rfl rfl) sy_refl) ?_
  refine sy_Fs (sy_ge_t (pc' := 64) xc64_9 (by decide) (by decide) (by decide) (by decide) sy_refl) ?_
  refine sy_Fs (sy_aldn xc64_64 rfl rfl sy_refl) ?_
  refine sy_Fs (sy_ildn xc64_65 rfl rfl sy_refl) ?_
  refine sy_Ff (i := 1) (q := 2) (v := (0, 0, 0)) hw hX1 (by decide) (by decide) rfl (sy_ok0 (by first | decide | assumption | omega | exact mo_rd_lt _ _ | exact mo_add_lt _ _ | exact mo_sub_lt _ _ | exact mo_mul_lt _ _ | exact mo_shl_lt _ _ | exact mo_ushr_lt _ _ | exact mo_or_lt (by decide) (mo_and_lt (mo_rd_lt _ _)) | exact mo_or_lt (mo_shl_lt _ _) (mo_and_lt (mo_rd_lt _ _)))) (sx_pf xc64_66 xf64_59 rfl (xg_int xt8_5) xh64_59 (wh_at hw 1 rfl) rfl (sy_ok0 (by first | decide | assumption | omega | exact mo_rd_lt _ _ | exact mo_add_lt _ _ | exact mo_sub_lt _ _ | exact mo_mul_lt _ _ | exact mo_shl_lt _ _ | exact mo_ushr_lt _ _ | exact mo_or_lt (by decide) (mo_and_lt (mo_rd_lt _ _)) | exact mo_or_lt (mo_shl_lt _ _) (mo_and_lt (mo_rd_lt _ _)))) rfl sy_refl) ?_
  intro w X1 hw hX1
  simp only [List.set_cons_zero, List.set_cons_succ] at hw hX1
  exact sy_Fv xc64_69 xr64 ⟨rfl, X1, hw, hX1⟩
end DD
