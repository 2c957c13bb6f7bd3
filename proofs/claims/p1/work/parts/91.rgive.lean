/-! THE REFERENCE, II: give of a header -/
theorem xc136_0 : tt_cd 136 0 = (1, .iload_n 1, 1) := by decide +kernel
theorem xc136_1 : tt_cd 136 1 = (2, .i2l, 1) := by decide +kernel
theorem xc136_2 : tt_cd 136 2 = (2, .lconst 0, 1) := by decide +kernel
theorem xc136_3 : tt_cd 136 3 = (1, .aload_n 0, 1) := by decide +kernel
theorem xc136_4 : tt_cd 136 4 = (3, .getfield 632, 3) := by decide +kernel
theorem xf136_632 : tt_fl 136 632 = (1, 0, 49) := by decide +kernel
theorem xc136_7 : tt_cd 136 7 = (2, .iconst 1, 1) := by decide +kernel
theorem xc136_8 : tt_cd 136 8 = (2, .isub, 1) := by decide +kernel
theorem xc136_9 : tt_cd 136 9 = (2, .i2l, 1) := by decide +kernel
theorem xc136_10 : tt_cd 136 10 = (10, .invokestatic 147, 3) := by decide +kernel
theorem xm136_147 : tt_ml 136 147 = (1, 98, 3) := by decide +kernel
theorem xl98 : tt_mL 98 = 6 := by decide +kernel
theorem xc136_13 : tt_cd 136 13 = (5, .ifCond .ne 7, 3) := by decide +kernel
theorem xc136_20 : tt_cd 136 20 = (2, .iconst 0, 1) := by decide +kernel
theorem xc136_21 : tt_cd 136 21 = (9, .ireturn, 1) := by decide +kernel
theorem xr136 : tt_mr 136 = 4 := by decide +kernel
theorem xc144_0 : tt_cd 144 0 = (2, .iconst 0, 1) := by decide +kernel
theorem xc144_1 : tt_cd 144 1 = (1, .istore_n 3, 1) := by decide +kernel
theorem xl144 : tt_mL 144 = 4 := by decide +kernel
theorem xc144_2 : tt_cd 144 2 = (1, .iload_n 3, 1) := by decide +kernel
theorem xc144_3 : tt_cd 144 3 = (1, .aload_n 0, 1) := by decide +kernel
theorem xc144_4 : tt_cd 144 4 = (3, .getfield 669, 3) := by decide +kernel
theorem xf144_669 : tt_fl 144 669 = (1, 0, 69) := by decide +kernel
theorem xc144_7 : tt_cd 144 7 = (5, .if_icmp .ge 29, 3) := by decide +kernel
theorem xc144_10 : tt_cd 144 10 = (1, .aload_n 0, 1) := by decide +kernel
theorem xc144_11 : tt_cd 144 11 = (3, .getfield 445, 3) := by decide +kernel
theorem xf144_445 : tt_fl 144 445 = (1, 0, 63) := by decide +kernel
theorem xc144_14 : tt_cd 144 14 = (4, .bipush 32, 2) := by decide +kernel
theorem xc144_16 : tt_cd 144 16 = (1, .iload_n 3, 1) := by decide +kernel
theorem xc144_17 : tt_cd 144 17 = (2, .imul, 1) := by decide +kernel
theorem xc144_18 : tt_cd 144 18 = (1, .aload_n 1, 1) := by decide +kernel
theorem xc144_19 : tt_cd 144 19 = (1, .iload_n 2, 1) := by decide +kernel
theorem xc144_20 : tt_cd 144 20 = (4, .bipush 32, 2) := by decide +kernel
theorem xc144_22 : tt_cd 144 22 = (10, .invokestatic 266, 3) := by decide +kernel
theorem xm144_266 : tt_ml 144 266 = (1, 113, 5) := by decide +kernel
theorem xl113 : tt_mL 113 = 6 := by decide +kernel
theorem xc144_25 : tt_cd 144 25 = (5, .ifCond .eq 5, 3) := by decide +kernel
theorem xc144_28 : tt_cd 144 28 = (1, .iload_n 3, 1) := by decide +kernel
theorem xc144_29 : tt_cd 144 29 = (9, .ireturn, 1) := by decide +kernel
theorem xc144_30 : tt_cd 144 30 = (1, .iinc 3 1, 3) := by decide +kernel
theorem xc144_33 : tt_cd 144 33 = (5, .goto (-31), 3) := by decide +kernel
theorem xc144_36 : tt_cd 144 36 = (4, .bipush (-2), 2) := by decide +kernel
theorem xc144_38 : tt_cd 144 38 = (9, .ireturn, 1) := by decide +kernel
theorem xr144 : tt_mr 144 = 1 := by decide +kernel
theorem xc143_0 : tt_cd 143 0 = (1, .aload_n 0, 1) := by decide +kernel
theorem xc143_1 : tt_cd 143 1 = (3, .getfield 382, 3) := by decide +kernel
theorem xf143_382 : tt_fl 143 382 = (1, 0, 37) := by decide +kernel
theorem xc143_4 : tt_cd 143 4 = (4, .bipush 105, 2) := by decide +kernel
theorem xc143_6 : tt_cd 143 6 = (1, .iload_n 1, 1) := by decide +kernel
theorem xc143_7 : tt_cd 143 7 = (2, .imul, 1) := by decide +kernel
theorem xc143_8 : tt_cd 143 8 = (1, .aload_n 0, 1) := by decide +kernel
theorem xc143_9 : tt_cd 143 9 = (3, .getfield 463, 3) := by decide +kernel
theorem xf143_463 : tt_fl 143 463 = (1, 0, 70) := by decide +kernel
theorem xc143_12 : tt_cd 143 12 = (2, .iconst 0, 1) := by decide +kernel
theorem xc143_13 : tt_cd 143 13 = (4, .bipush 105, 2) := by decide +kernel
theorem xc143_15 : tt_cd 143 15 = (10, .invokestatic 184, 3) := by decide +kernel
theorem xm143_184 : tt_ml 143 184 = (1, 110, 5) := by decide +kernel
theorem xc143_18 : tt_cd 143 18 = (1, .iload_n 3, 1) := by decide +kernel
theorem xc143_19 : tt_cd 143 19 = (5, .ifCond .le 18, 3) := by decide +kernel
theorem xc143_22 : tt_cd 143 22 = (1, .aload_n 0, 1) := by decide +kernel
theorem xc143_23 : tt_cd 143 23 = (3, .getfield 463, 3) := by decide +kernel
theorem xc143_26 : tt_cd 143 26 = (1, .iload_n 2, 1) := by decide +kernel
theorem xc143_27 : tt_cd 143 27 = (1, .aload_n 0, 1) := by decide +kernel
theorem xc143_28 : tt_cd 143 28 = (3, .getfield 463, 3) := by decide +kernel
theorem xc143_31 : tt_cd 143 31 = (1, .iload_n 2, 1) := by decide +kernel
theorem xc143_32 : tt_cd 143 32 = (3, .baload, 1) := by decide +kernel
theorem xc143_33 : tt_cd 143 33 = (1, .iload_n 3, 1) := by decide +kernel
theorem xc143_34 : tt_cd 143 34 = (2, .ixor, 1) := by decide +kernel
theorem xc143_35 : tt_cd 143 35 = (2, .i2b, 1) := by decide +kernel
theorem xc143_36 : tt_cd 143 36 = (6, .bastore, 1) := by decide +kernel
theorem xc143_37 : tt_cd 143 37 = (1, .aload_n 0, 1) := by decide +kernel
theorem xc143_38 : tt_cd 143 38 = (1, .aload_n 0, 1) := by decide +kernel
theorem xc143_39 : tt_cd 143 39 = (3, .getfield 463, 3) := by decide +kernel
theorem xc143_42 : tt_cd 143 42 = (2, .iconst 0, 1) := by decide +kernel
theorem xc143_43 : tt_cd 143 43 = (4, .bipush 105, 2) := by decide +kernel
theorem xc143_45 : tt_cd 143 45 = (1, .aload_n 0, 1) := by decide +kernel
theorem xc143_46 : tt_cd 143 46 = (3, .getfield 466, 3) := by decide +kernel
theorem xf143_466 : tt_fl 143 466 = (1, 0, 71) := by decide +kernel
theorem xc143_49 : tt_cd 143 49 = (2, .iconst 0, 1) := by decide +kernel
theorem xc143_50 : tt_cd 143 50 = (10, .invokevirtual 156, 3) := by decide +kernel
theorem xm143_156 : tt_ml 143 156 = (3, 100, 5) := by decide +kernel
theorem xi100 : tt_mci 100 = 0 := by decide +kernel
theorem xl100 : tt_mL 100 = 6 := by decide +kernel
theorem xc143_53 : tt_cd 143 53 = (1, .aload_n 0, 1) := by decide +kernel
theorem xc143_54 : tt_cd 143 54 = (1, .aload_n 0, 1) := by decide +kernel
theorem xc143_55 : tt_cd 143 55 = (3, .getfield 466, 3) := by decide +kernel
theorem xc143_58 : tt_cd 143 58 = (2, .iconst 0, 1) := by decide +kernel
theorem xc143_59 : tt_cd 143 59 = (10, .invokevirtual 675, 3) := by decide +kernel
theorem xm143_675 : tt_ml 143 675 = (3, 144, 2) := by decide +kernel
theorem xi144 : tt_mci 144 = 0 := by decide +kernel
theorem xc143_62 : tt_cd 143 62 = (5, .ifCond .lt 5, 3) := by decide +kernel
theorem xc143_65 : tt_cd 143 65 = (2, .iconst 2, 1) := by decide +kernel
theorem xc143_66 : tt_cd 143 66 = (9, .ireturn, 1) := by decide +kernel
theorem xc143_67 : tt_cd 143 67 = (1, .aload_n 0, 1) := by decide +kernel
theorem xc143_68 : tt_cd 143 68 = (1, .aload_n 0, 1) := by decide +kernel
theorem xc143_69 : tt_cd 143 69 = (3, .getfield 463, 3) := by decide +kernel
theorem xc143_72 : tt_cd 143 72 = (2, .iconst 0, 1) := by decide +kernel
theorem xc143_73 : tt_cd 143 73 = (10, .invokevirtual 675, 3) := by decide +kernel
theorem xc143_76 : tt_cd 143 76 = (1, .istore 4, 2) := by decide +kernel
theorem xl143 : tt_mL 143 = 8 := by decide +kernel
theorem xc143_78 : tt_cd 143 78 = (1, .iload 4, 2) := by decide +kernel
theorem xc143_80 : tt_cd 143 80 = (5, .ifCond .ge 5, 3) := by decide +kernel
theorem xc143_83 : tt_cd 143 83 = (2, .iconst 0, 1) := by decide +kernel
theorem xc143_84 : tt_cd 143 84 = (9, .ireturn, 1) := by decide +kernel
theorem xr143 : tt_mr 143 = 1 := by decide +kernel
theorem xc142_0 : tt_cd 142 0 = (1, .aload_n 0, 1) := by decide +kernel
theorem xc142_1 : tt_cd 142 1 = (2, .iconst 0, 1) := by decide +kernel
theorem xc142_2 : tt_cd 142 2 = (6, .putfield 1, 3) := by decide +kernel
theorem xf142_1 : tt_fl 142 1 = (1, 0, 0) := by decide +kernel
theorem xt0_0 : tt_fty 0 0 = .int := by decide +kernel
theorem xn0_0 : tt_ffin 0 0 = false := by decide +kernel
theorem xc142_5 : tt_cd 142 5 = (1, .aload_n 0, 1) := by decide +kernel
theorem xc142_6 : tt_cd 142 6 = (1, .iload_n 1, 1) := by decide +kernel
theorem xc142_7 : tt_cd 142 7 = (10, .invokevirtual 662, 3) := by decide +kernel
theorem xm142_662 : tt_ml 142 662 = (3, 136, 1) := by decide +kernel
theorem xi136 : tt_mci 136 = 0 := by decide +kernel
theorem xl136 : tt_mL 136 = 2 := by decide +kernel
theorem xc142_10 : tt_cd 142 10 = (5, .ifCond .ne 28, 3) := by decide +kernel
theorem xc142_13 : tt_cd 142 13 = (1, .iload_n 2, 1) := by decide +kernel
theorem xc142_14 : tt_cd 142 14 = (2, .i2l, 1) := by decide +kernel
theorem xc142_15 : tt_cd 142 15 = (2, .lconst 0, 1) := by decide +kernel
theorem xc142_16 : tt_cd 142 16 = (4, .ldc2_w 55, 3) := by decide +kernel
theorem xk142_55 : tt_kc 142 55 = (2, 2) := by decide +kernel
theorem xc142_19 : tt_cd 142 19 = (10, .invokestatic 147, 3) := by decide +kernel
theorem xm142_147 : tt_ml 142 147 = (1, 98, 3) := by decide +kernel
theorem xc142_22 : tt_cd 142 22 = (5, .ifCond .eq 16, 3) := by decide +kernel
theorem xc142_25 : tt_cd 142 25 = (1, .iload 4, 2) := by decide +kernel
theorem xc142_27 : tt_cd 142 27 = (2, .i2l, 1) := by decide +kernel
theorem xc142_28 : tt_cd 142 28 = (2, .lconst 0, 1) := by decide +kernel
theorem xc142_29 : tt_cd 142 29 = (4, .ldc2_w 693, 3) := by decide +kernel
theorem xk142_693 : tt_kc 142 693 = (2, 255) := by decide +kernel
theorem xc142_32 : tt_cd 142 32 = (10, .invokestatic 147, 3) := by decide +kernel
theorem xc142_35 : tt_cd 142 35 = (5, .ifCond .ne 5, 3) := by decide +kernel
theorem xc142_40 : tt_cd 142 40 = (1, .iload_n 2, 1) := by decide +kernel
theorem xc142_41 : tt_cd 142 41 = (5, .ifCond .ne 8, 3) := by decide +kernel
theorem xc142_44 : tt_cd 142 44 = (4, .bipush 105, 2) := by decide +kernel
theorem xc142_46 : tt_cd 142 46 = (5, .goto 23, 3) := by decide +kernel
theorem xc142_69 : tt_cd 142 69 = (1, .istore 5, 2) := by decide +kernel
theorem xl142 : tt_mL 142 = 7 := by decide +kernel
theorem xc142_71 : tt_cd 142 71 = (1, .iload 4, 2) := by decide +kernel
theorem xc142_73 : tt_cd 142 73 = (5, .ifCond .le 19, 3) := by decide +kernel
theorem xc142_76 : tt_cd 142 76 = (1, .iload_n 3, 1) := by decide +kernel
theorem xc142_77 : tt_cd 142 77 = (2, .i2l, 1) := by decide +kernel
theorem xc142_78 : tt_cd 142 78 = (2, .lconst 0, 1) := by decide +kernel
theorem xc142_79 : tt_cd 142 79 = (1, .iload 5, 2) := by decide +kernel
theorem xc142_81 : tt_cd 142 81 = (2, .iconst 1, 1) := by decide +kernel
theorem xc142_82 : tt_cd 142 82 = (2, .isub, 1) := by decide +kernel
theorem xc142_83 : tt_cd 142 83 = (2, .i2l, 1) := by decide +kernel
theorem xc142_84 : tt_cd 142 84 = (10, .invokestatic 147, 3) := by decide +kernel
theorem xc142_87 : tt_cd 142 87 = (5, .ifCond .ne 5, 3) := by decide +kernel
theorem xc142_92 : tt_cd 142 92 = (1, .iload_n 2, 1) := by decide +kernel
theorem xc142_93 : tt_cd 142 93 = (5, .ifCond .ne 12, 3) := by decide +kernel
theorem xc142_96 : tt_cd 142 96 = (1, .aload_n 0, 1) := by decide +kernel
theorem xc142_97 : tt_cd 142 97 = (1, .iload_n 1, 1) := by decide +kernel
theorem xc142_98 : tt_cd 142 98 = (1, .iload_n 3, 1) := by decide +kernel
theorem xc142_99 : tt_cd 142 99 = (1, .iload 4, 2) := by decide +kernel
theorem xc142_101 : tt_cd 142 101 = (10, .invokevirtual 695, 3) := by decide +kernel
theorem xm142_695 : tt_ml 142 695 = (3, 143, 3) := by decide +kernel
theorem xi143 : tt_mci 143 = 0 := by decide +kernel
theorem xc142_104 : tt_cd 142 104 = (9, .ireturn, 1) := by decide +kernel
theorem xr142 : tt_mr 142 = 1 := by decide +kernel
theorem sy_Cw {k n F Lo : Nat} {as r : List mv_V} {w : mv_T 10} (h : sy_D k n F Lo as w (fun ret w' => ret = r ∧ w' = w)) : sy_C k n F Lo as w r w := by
  obtain ⟨ret, w', ⟨rfl, rfl⟩, h⟩ := h
  exact h
section RG
variable {n : Nat} {pl : Nat → Nat} {w0 w : mv_T 10} {X0 Pc Wd Vv St Af Mi Hd Gv Gi Hi Bi Hb Fl Of Ou Fs Bs Hf Hh Bb Oi Ly Hw He Ht Ca Lu th up lp oc co so ms bh : Nat}
theorem wr_noBlock (hw : wh 29 pl w0 w [(0, 0, 107, X0), (1, 1, 64, Pc), (1, 0, 64, mc_K), (1, 0, 64, Wd), (1, 0, 8, Vv), (1, 0, 8, St), (1, 0, 8, Af), (1, 1, 32, Mi), (1, 1, 4200, Hd), (1, 1, 105, Gv), (1, 1, 32, Gi), (1, 1, 1920, Hi), (1, 1, 1280, Bi), (1, 1, 6300, Hb), (1, 1, 3200, Fl), (1, 1, 1900, Of), (1, 1, 32, Ou), (1, 0, 40, Fs), (1, 0, 40, Bs), (1, 2, 60, Hf), (1, 2, 60, Hh), (1, 1, 76000, Bb), (1, 1, 2304, Oi), (1, 1, 2400, Ly), (1, 0, 60, Hw), (1, 0, 60, He), (1, 0, 60, Ht), (1, 0, 60, Ca), (1, 0, 2, Lu)]) (hX0 : fh X0 jR [(0, th, 0), (2, pl 1, 0), (2, pl 2, 0), (2, pl 3, 0), (2, pl 4, 0), (2, pl 5, 0), (2, pl 6, 0), (2, pl 7, 0), (0, up, 0), (1, lp, 0), (2, pl 8, 0), (2, pl 9, 0), (2, pl 10, 0), (2, pl 11, 0), (2, pl 12, 0), (2, pl 13, 0), (2, pl 14, 0), (2, pl 15, 0), (2, pl 16, 0), (2, pl 17, 0), (2, pl 18, 0), (2, pl 19, 0), (2, pl 20, 0), (2, pl 21, 0), (2, pl 22, 0), (2, pl 23, 0), (2, pl 24, 0), (2, pl 25, 0), (2, pl 26, 0), (2, pl 27, 0), (2, pl 28, 0), (0, 1, 0), (0, 1, 0), (0, oc, 0), (0, co, 0), (0, so, 0), (0, ms, 0), (0, bh, 0), (0, 0, 0)])  : sy_D 136 n 1 25 [(2, pl 0, 0), (0, 0, 0)] w (fun ret w' => ret = [(0, 0, 0)] ∧ w' = w) := by
  refine sy_Dof (us := []) (sy_oks_cons (sy_ok2 (wh_lt hw 0 (by first | decide | assumption))) (sy_oks_cons (sy_ok0 (by first | decide | assumption | omega | exact mo_rd_lt _ _ | exact mo_add_lt _ _ | exact mo_sub_lt _ _ | exact mo_mul_lt _ _ | exact mo_shl_lt _ _ | exact mo_ushr_lt _ _ | exact mo_or_lt (by decide) (mo_and_lt (mo_rd_lt _ _)) | exact mo_or_lt (mo_shl_lt _ _) (mo_and_lt (mo_rd_lt _ _)))) sy_oks_nil)) rfl rfl ?_
  show sy_F 136 n 1 25 0 [(2, pl 0, 0), (0, 0, 0)] [] w _
  refine sy_Fs (sy_ildn xc136_0 rfl rfl sy_refl) ?_
  refine sy_Fs (sx_i2l xc136_1 (by first | decide | assumption | omega | exact mo_rd_lt _ _ | exact mo_add_lt _ _ | exact mo_sub_lt _ _ | exact mo_mul_lt _ _ | exact mo_shl_lt _ _ | exact mo_ushr_lt _ _ | exact mo_or_lt (by decide) (mo_and_lt (mo_rd_lt _ _)) | exact mo_or_lt (mo_shl_lt _ _) (mo_and_lt (mo_rd_lt _ _)))) ?_
  refine sy_Fs (sy_lconst xc136_2 sy_refl) ?_
  refine sy_Fs (sy_aldn xc136_3 rfl rfl sy_refl) ?_
  refine sy_Fs (sy_gf xc136_4 xf136_632 rfl (wh_at hw 0 rfl) rfl (fh_at hX0 31 rfl rfl) sy_refl) ?_
  refine sy_Fs (sy_iconst (v := 1) xc136_7 (by decide) sy_refl) ?_
  refine sy_Fs (sx_isub (z := 0) xc136_8 (by decide)) ?_
  refine sy_Fs (sx_i2l xc136_9 (by first | decide | assumption | omega | exact mo_rd_lt _ _ | exact mo_add_lt _ _ | exact mo_sub_lt _ _ | exact mo_mul_lt _ _ | exact mo_shl_lt _ _ | exact mo_ushr_lt _ _ | exact mo_or_lt (by decide) (mo_and_lt (mo_rd_lt _ _)) | exact mo_or_lt (mo_shl_lt _ _) (mo_and_lt (mo_rd_lt _ _)))) ?_
  refine sy_Fs (sy_callG (kd := 1) (as := [(1, 0, 0), (1, 0, 0), (1, 0, 0)]) (S0 := []) (ret := [(0, 1, 0)]) xc136_10 (sy_calS (as := [(1, 0, 0), (1, 0, 0), (1, 0, 0)]) (S0 := []) xm136_147 rfl rfl) rfl rfl rfl rfl (sy_oka (sy_oks_cons (sy_ok1 (by first | decide | assumption | omega | exact mo_rd_lt _ _ | exact mo_add_lt _ _ | exact mo_sub_lt _ _ | exact mo_mul_lt _ _ | exact mo_shl_lt _ _ | exact mo_ushr_lt _ _ | exact mo_or_lt (by decide) (mo_and_lt (mo_rd_lt _ _)) | exact mo_or_lt (mo_shl_lt _ _) (mo_and_lt (mo_rd_lt _ _)))) (sy_oks_cons (sy_ok1 (by first | decide | assumption | omega | exact mo_rd_lt _ _ | exact mo_add_lt _ _ | exact mo_sub_lt _ _ | exact mo_mul_lt _ _ | exact mo_shl_lt _ _ | exact mo_ushr_lt _ _ | exact mo_or_lt (by decide) (mo_and_lt (mo_rd_lt _ _)) | exact mo_or_lt (mo_shl_lt _ _) (mo_and_lt (mo_rd_lt _ _)))) (sy_oks_cons (sy_ok1 (by first | decide | assumption | omega | exact mo_rd_lt _ _ | exact mo_add_lt _ _ | exact mo_sub_lt _ _ | exact mo_mul_lt _ _ | exact mo_shl_lt _ _ | exact mo_ushr_lt _ _ | exact mo_or_lt (by decide) (mo_and_lt (mo_rd_lt _ _)) | exact mo_or_lt (mo_shl_lt _ _) (mo_and_lt (mo_rd_lt _ _)))) sy_oks_nil))) rfl xl98) (wr_in (n := n) (by first | decide | assumption | omega) (by first | decide | assumption | omega) (by first | decide | assumption | omega)) (by decide) (by rw [xl98]; decide) sy_refl) ?_
  refine sy_Fs (sy_ifne_t (pc' := 20) xc136_13 (by decide) (by decide) (by decide) (by decide) sy_refl) ?_
  refine sy_Fs (sy_iconst (v := 0) xc136_20 (by decide) sy_refl) ?_
  exact sy_Fz xc136_21 xr136 (by decide) ⟨rfl, rfl⟩
def rf_a (Hi C at_ : Nat) : Nat := bif sb_eq Hi 0 C at_ 32 then 0 else 4294967294
theorem wr_find (hw : wh 29 pl w0 w [(0, 0, 107, X0), (1, 1, 64, Pc), (1, 0, 64, mc_K), (1, 0, 64, Wd), (1, 0, 8, Vv), (1, 0, 8, St), (1, 0, 8, Af), (1, 1, 32, Mi), (1, 1, 4200, Hd), (1, 1, 105, Gv), (1, 1, 32, Gi), (1, 1, 1920, Hi), (1, 1, 1280, Bi), (1, 1, 6300, Hb), (1, 1, 3200, Fl), (1, 1, 1900, Of), (1, 1, 32, Ou), (1, 0, 40, Fs), (1, 0, 40, Bs), (1, 2, 60, Hf), (1, 2, 60, Hh), (1, 1, 76000, Bb), (1, 1, 2304, Oi), (1, 1, 2400, Ly), (1, 0, 60, Hw), (1, 0, 60, He), (1, 0, 60, Ht), (1, 0, 60, Ca), (1, 0, 2, Lu)]) (hX0 : fh X0 jR [(0, th, 0), (2, pl 1, 0), (2, pl 2, 0), (2, pl 3, 0), (2, pl 4, 0), (2, pl 5, 0), (2, pl 6, 0), (2, pl 7, 0), (0, up, 0), (1, lp, 0), (2, pl 8, 0), (2, pl 9, 0), (2, pl 10, 0), (2, pl 11, 0), (2, pl 12, 0), (2, pl 13, 0), (2, pl 14, 0), (2, pl 15, 0), (2, pl 16, 0), (2, pl 17, 0), (2, pl 18, 0), (2, pl 19, 0), (2, pl 20, 0), (2, pl 21, 0), (2, pl 22, 0), (2, pl 23, 0), (2, pl 24, 0), (2, pl 25, 0), (2, pl 26, 0), (2, pl 27, 0), (2, pl 28, 0), (0, 1, 0), (0, 1, 0), (0, oc, 0), (0, co, 0), (0, so, 0), (0, ms, 0), (0, bh, 0), (0, 0, 0)]) {jf at_ qf C : Nat} (hjf : jf < 29) (cjf : [(0, 0, 107, X0), (1, 1, 64, Pc), (1, 0, 64, mc_K), (1, 0, 64, Wd), (1, 0, 8, Vv), (1, 0, 8, St), (1, 0, 8, Af), (1, 1, 32, Mi), (1, 1, 4200, Hd), (1, 1, 105, Gv), (1, 1, 32, Gi), (1, 1, 1920, Hi), (1, 1, 1280, Bi), (1, 1, 6300, Hb), (1, 1, 3200, Fl), (1, 1, 1900, Of), (1, 1, 32, Ou), (1, 0, 40, Fs), (1, 0, 40, Bs), (1, 2, 60, Hf), (1, 2, 60, Hh), (1, 1, 76000, Bb), (1, 1, 2304, Oi), (1, 1, 2400, Ly), (1, 0, 60, Hw), (1, 0, 60, He), (1, 0, 60, Ht), (1, 0, 60, Ca), (1, 0, 2, Lu)][jf]? = some (1, 1, qf, C)) (hqf : qf ≤ 2147483647) (hat : at_ + 32 ≤ qf) : sy_D 144 n 1 25 [(2, pl 0, 0), (2, pl jf, 0), (0, at_, 0)] w (fun ret w' => ret = [(0, rf_a Hi C at_, 0)] ∧ w' = w) := by
  refine sy_Dof (us := [(255, 0, 0)]) (sy_oks_cons (sy_ok2 (wh_lt hw 0 (by first | decide | assumption))) (sy_oks_cons (sy_ok2 (wh_lt hw jf (by first | decide | assumption))) (sy_oks_cons (sy_ok0 (by first | decide | assumption | omega | exact mo_rd_lt _ _ | exact mo_add_lt _ _ | exact mo_sub_lt _ _ | exact mo_mul_lt _ _ | exact mo_shl_lt _ _ | exact mo_ushr_lt _ _ | exact mo_or_lt (by decide) (mo_and_lt (mo_rd_lt _ _)) | exact mo_or_lt (mo_shl_lt _ _) (mo_and_lt (mo_rd_lt _ _)))) sy_oks_nil))) rfl rfl ?_
  show sy_F 144 n 1 25 0 [(2, pl 0, 0), (2, pl jf, 0), (0, at_, 0), (255, 0, 0)] [] w _
  refine sy_Fs (sy_iconst (v := 0) xc144_0 (by decide) sy_refl) ?_
  refine sy_Fs (sx_istn (j := 3) (ls' := [(2, pl 0, 0), (2, pl jf, 0), (0, at_, 0), (0, 0, 0)]) xc144_1 rfl rfl (sy_ok0 (by first | decide | assumption | omega | exact mo_rd_lt _ _ | exact mo_add_lt _ _ | exact mo_sub_lt _ _ | exact mo_mul_lt _ _ | exact mo_shl_lt _ _ | exact mo_ushr_lt _ _ | exact mo_or_lt (by decide) (mo_and_lt (mo_rd_lt _ _)) | exact mo_or_lt (mo_shl_lt _ _) (mo_and_lt (mo_rd_lt _ _)))) (by rw [xl144]; rfl) rfl rfl) ?_
  refine sy_Fs (sy_ildn xc144_2 rfl rfl sy_refl) ?_
  refine sy_Fs (sy_aldn xc144_3 rfl rfl sy_refl) ?_
  refine sy_Fs (sy_gf xc144_4 xf144_669 rfl (wh_at hw 0 rfl) rfl (fh_at hX0 32 rfl rfl) sy_refl) ?_
  refine sy_Fs (sy_ge_f xc144_7 (by decide) (by decide) (by decide) sy_refl) ?_
  refine sy_Fs (sy_aldn xc144_10 rfl rfl sy_refl) ?_
  refine sy_Fs (sy_gf xc144_11 xf144_445 rfl (wh_at hw 0 rfl) rfl (fh_at hX0 13 rfl rfl) sy_refl) ?_
  refine sy_Fs (sy_bipush (v := 32) xc144_14 (by decide) (by decide) sy_refl) ?_
  refine sy_Fs (sy_ildn xc144_16 rfl rfl sy_refl) ?_
  refine sy_Fs (sx_imul (z := 0) xc144_17 (by decide)) ?_
  refine sy_Fs (sy_aldn xc144_18 rfl rfl sy_refl) ?_
  refine sy_Fs (sy_ildn xc144_19 rfl rfl sy_refl) ?_
  refine sy_Fs (sy_bipush (v := 32) xc144_20 (by decide) (by decide) sy_refl) ?_
  refine sy_Fs (sy_callG (kd := 1) (as := [(2, pl 11, 0), (0, 0, 0), (2, pl jf, 0), (0, at_, 0), (0, 32, 0)]) (S0 := []) (ret := [(0, (sb_n Hi 0 C at_ 32), 0)]) xc144_22 (sy_calS (as := [(2, pl 11, 0), (0, 0, 0), (2, pl jf, 0), (0, at_, 0), (0, 32, 0)]) (S0 := []) xm144_266 rfl rfl) rfl rfl rfl rfl (sy_oka (sy_oks_cons (sy_ok2 (wh_lt hw 11 (by first | decide | assumption))) (sy_oks_cons (sy_ok0 (by first | decide | assumption | omega | exact mo_rd_lt _ _ | exact mo_add_lt _ _ | exact mo_sub_lt _ _ | exact mo_mul_lt _ _ | exact mo_shl_lt _ _ | exact mo_ushr_lt _ _ | exact mo_or_lt (by decide) (mo_and_lt (mo_rd_lt _ _)) | exact mo_or_lt (mo_shl_lt _ _) (mo_and_lt (mo_rd_lt _ _)))) (sy_oks_cons (sy_ok2 (wh_lt hw jf (by first | decide | assumption))) (sy_oks_cons (sy_ok0 (by first | decide | assumption | omega | exact mo_rd_lt _ _ | exact mo_add_lt _ _ | exact mo_sub_lt _ _ | exact mo_mul_lt _ _ | exact mo_shl_lt _ _ | exact mo_ushr_lt _ _ | exact mo_or_lt (by decide) (mo_and_lt (mo_rd_lt _ _)) | exact mo_or_lt (mo_shl_lt _ _) (mo_and_lt (mo_rd_lt _ _)))) (sy_oks_cons (sy_ok0 (by first | decide | assumption | omega | exact mo_rd_lt _ _ | exact mo_add_lt _ _ | exact mo_sub_lt _ _ | exact mo_mul_lt _ _ | exact mo_shl_lt _ _ | exact mo_ushr_lt _ _ | exact mo_or_lt (by decide) (mo_and_lt (mo_rd_lt _ _)) | exact mo_or_lt (mo_shl_lt _ _) (mo_and_lt (mo_rd_lt _ _)))) sy_oks_nil))))) rfl xl113) (sbL_run (wh_lt hw 11 (by first | decide | assumption)) (wh_lt hw jf (by first | decide | assumption)) (wh_at hw 11 rfl) (wh_at hw jf cjf) (by first | decide | assumption | omega) (by first | decide | assumption | omega) (by first | decide | assumption | omega) (by first | decide | assumption | omega)) (by decide) (by rw [xl113]; decide) sy_refl) ?_
  cases hb : sb_eq Hi 0 C at_ 32 with
  | true =>
    have hs : sb_n Hi 0 C at_ 32 = 1 := by unfold sb_n; rw [hb]; rfl
    refine sy_Fs (sy_ifeq_f xc144_25 (by decide) (by rw [hs]; decide) (by rw [hs]; decide) sy_refl) ?_
    refine sy_Fs (sy_ildn xc144_28 rfl rfl sy_refl) ?_
    exact sy_Fi xc144_29 xr144 rfl ⟨by unfold rf_a; rw [hb]; rfl, rfl⟩
  | false =>
    have hs : sb_n Hi 0 C at_ 32 = 0 := by unfold sb_n; rw [hb]; rfl
    refine sy_Fs (sy_ifeq_t (pc' := 30) xc144_25 (by decide) hs (by decide) sy_refl) ?_
    refine sy_Fs (sx_iinc (c := 1) (z := 1) (ls' := [(2, pl 0, 0), (2, pl jf, 0), (0, at_, 0), (0, 1, 0)]) xc144_30 rfl (by decide) (by rw [xl144]; rfl) rfl (by decide) rfl) ?_
    refine sy_Fs (sy_goto (pc' := 2) xc144_33 (by decide) (by decide) sy_refl) ?_
    refine sy_Fs (sy_ildn xc144_2 rfl rfl sy_refl) ?_
    refine sy_Fs (sy_aldn xc144_3 rfl rfl sy_refl) ?_
    refine sy_Fs (sy_gf xc144_4 xf144_669 rfl (wh_at hw 0 rfl) rfl (fh_at hX0 32 rfl rfl) sy_refl) ?_
    refine sy_Fs (sy_ge_t (pc' := 36) xc144_7 (by decide) (by decide) (by decide) (by decide) sy_refl) ?_
    refine sy_Fs (sy_bipush (v := 4294967294) xc144_36 (by decide) (by decide) sy_refl) ?_
    exact sy_Fi xc144_38 xr144 rfl ⟨by unfold rf_a; rw [hb]; rfl, rfl⟩
/-- the spoiled row of bytes -/
def rg_G (T place mask : Nat) : Nat := mv_wr 32 T place (mn_b (mn_b (mo_xor (mv_rd 32 T place) mask)))
theorem rg_head (hw : wh 29 pl w0 w [(0, 0, 107, X0), (1, 1, 64, Pc), (1, 0, 64, mc_K), (1, 0, 64, Wd), (1, 0, 8, Vv), (1, 0, 8, St), (1, 0, 8, Af), (1, 1, 32, Mi), (1, 1, 4200, Hd), (1, 1, 105, Gv), (1, 1, 32, Gi), (1, 1, 1920, Hi), (1, 1, 1280, Bi), (1, 1, 6300, Hb), (1, 1, 3200, Fl), (1, 1, 1900, Of), (1, 1, 32, Ou), (1, 0, 40, Fs), (1, 0, 40, Bs), (1, 2, 60, Hf), (1, 2, 60, Hh), (1, 1, 76000, Bb), (1, 1, 2304, Oi), (1, 1, 2400, Ly), (1, 0, 60, Hw), (1, 0, 60, He), (1, 0, 60, Ht), (1, 0, 60, Ca), (1, 0, 2, Lu)]) (hX0 : fh X0 jR [(0, th, 0), (2, pl 1, 0), (2, pl 2, 0), (2, pl 3, 0), (2, pl 4, 0), (2, pl 5, 0), (2, pl 6, 0), (2, pl 7, 0), (0, up, 0), (1, lp, 0), (2, pl 8, 0), (2, pl 9, 0), (2, pl 10, 0), (2, pl 11, 0), (2, pl 12, 0), (2, pl 13, 0), (2, pl 14, 0), (2, pl 15, 0), (2, pl 16, 0), (2, pl 17, 0), (2, pl 18, 0), (2, pl 19, 0), (2, pl 20, 0), (2, pl 21, 0), (2, pl 22, 0), (2, pl 23, 0), (2, pl 24, 0), (2, pl 25, 0), (2, pl 26, 0), (2, pl 27, 0), (2, pl 28, 0), (0, 1, 0), (0, 1, 0), (0, oc, 0), (0, co, 0), (0, so, 0), (0, ms, 0), (0, bh, 0), (0, 0, 0)]) {place mask : Nat} {f : Nat → Nat} (hp : place < 105) (hm1 : 0 < mask) (hm2 : mask ≤ 255) (hA : ∀ i, i < 8 → mv_rd 32 Af i = mv_rd 32 hs_S0 i) (hf : ∀ j, j < 105 → mv_rd 32 (rg_G (mo_T Gv 0 Hd 0 105) place mask) (0 + j) = f j) (hG : sb_eq Hi 0 (rg_G (mo_T Gv 0 Hd 0 105) place mask) 0 32 = false) : sy_D 143 n 5 122 [(2, pl 0, 0), (0, 0, 0), (0, place, 0), (0, mask, 0)] w (fun ret _ => ∃ T : Nat, (∀ j, j < 32 → mv_rd 32 T j = bk_D (hs_2 f 105) j) ∧ ret = [(0, gh_a Hi T, 0)]) := by
  refine sy_Dof (us := [(255, 0, 0), (255, 0, 0), (255, 0, 0), (255, 0, 0)]) (sy_oks_cons (sy_ok2 (wh_lt hw 0 (by first | decide | assumption))) (sy_oks_cons (sy_ok0 (by first | decide | assumption | omega | exact mo_rd_lt _ _ | exact mo_add_lt _ _ | exact mo_sub_lt _ _ | exact mo_mul_lt _ _ | exact mo_shl_lt _ _ | exact mo_ushr_lt _ _ | exact mo_or_lt (by decide) (mo_and_lt (mo_rd_lt _ _)) | exact mo_or_lt (mo_shl_lt _ _) (mo_and_lt (mo_rd_lt _ _)))) (sy_oks_cons (sy_ok0 (by first | decide | assumption | omega | exact mo_rd_lt _ _ | exact mo_add_lt _ _ | exact mo_sub_lt _ _ | exact mo_mul_lt _ _ | exact mo_shl_lt _ _ | exact mo_ushr_lt _ _ | exact mo_or_lt (by decide) (mo_and_lt (mo_rd_lt _ _)) | exact mo_or_lt (mo_shl_lt _ _) (mo_and_lt (mo_rd_lt _ _)))) (sy_oks_cons (sy_ok0 (by first | decide | assumption | omega | exact mo_rd_lt _ _ | exact mo_add_lt _ _ | exact mo_sub_lt _ _ | exact mo_mul_lt _ _ | exact mo_shl_lt _ _ | exact mo_ushr_lt _ _ | exact mo_or_lt (by decide) (mo_and_lt (mo_rd_lt _ _)) | exact mo_or_lt (mo_shl_lt _ _) (mo_and_lt (mo_rd_lt _ _)))) sy_oks_nil)))) rfl rfl ?_
  show sy_F 143 n 5 122 0 [(2, pl 0, 0), (0, 0, 0), (0, place, 0), (0, mask, 0), (255, 0, 0), (255, 0, 0), (255, 0, 0), (255, 0, 0)] [] w _
  refine sy_Fs (sy_aldn xc143_0 rfl rfl sy_refl) ?_
  refine sy_Fs (sy_gf xc143_1 xf143_382 rfl (wh_at hw 0 rfl) rfl (fh_at hX0 10 rfl rfl) sy_refl) ?_
  refine sy_Fs (sy_bipush (v := 105) xc143_4 (by decide) (by decide) sy_refl) ?_
  refine sy_Fs (sy_ildn xc143_6 rfl rfl sy_refl) ?_
  refine sy_Fs (sx_imul (z := 0) xc143_7 (by decide)) ?_
  refine sy_Fs (sy_aldn xc143_8 rfl rfl sy_refl) ?_
  refine sy_Fs (sy_gf xc143_9 xf143_463 rfl (wh_at hw 0 rfl) rfl (fh_at hX0 11 rfl rfl) sy_refl) ?_
  refine sy_Fs (sy_iconst (v := 0) xc143_12 (by decide) sy_refl) ?_
  refine sy_Fs (sy_bipush (v := 105) xc143_13 (by decide) (by decide) sy_refl) ?_
  refine sy_Fw (i := 9) (x := (1, 1, 105, (mo_T Gv 0 Hd 0 105))) hw (by decide) (sy_callG (kd := 1) (as := [(2, pl 8, 0), (0, 0, 0), (2, pl 9, 0), (0, 0, 0), (0, 105, 0)]) (S0 := []) (ret := []) xc143_15 (sy_calS (as := [(2, pl 8, 0), (0, 0, 0), (2, pl 9, 0), (0, 0, 0), (0, 105, 0)]) (S0 := []) xm143_184 rfl rfl) rfl rfl rfl rfl (sy_oka (sy_oks_cons (sy_ok2 (wh_lt hw 8 (by first | decide | assumption))) (sy_oks_cons (sy_ok0 (by first | decide | assumption | omega | exact mo_rd_lt _ _ | exact mo_add_lt _ _ | exact mo_sub_lt _ _ | exact mo_mul_lt _ _ | exact mo_shl_lt _ _ | exact mo_ushr_lt _ _ | exact mo_or_lt (by decide) (mo_and_lt (mo_rd_lt _ _)) | exact mo_or_lt (mo_shl_lt _ _) (mo_and_lt (mo_rd_lt _ _)))) (sy_oks_cons (sy_ok2 (wh_lt hw 9 (by first | decide | assumption))) (sy_oks_cons (sy_ok0 (by first | decide | assumption | omega | exact mo_rd_lt _ _ | exact mo_add_lt _ _ | exact mo_sub_lt _ _ | exact mo_mul_lt _ _ | exact mo_shl_lt _ _ | exact mo_ushr_lt _ _ | exact mo_or_lt (by decide) (mo_and_lt (mo_rd_lt _ _)) | exact mo_or_lt (mo_shl_lt _ _) (mo_and_lt (mo_rd_lt _ _)))) (sy_oks_cons (sy_ok0 (by first | decide | assumption | omega | exact mo_rd_lt _ _ | exact mo_add_lt _ _ | exact mo_sub_lt _ _ | exact mo_mul_lt _ _ | exact mo_shl_lt _ _ | exact mo_ushr_lt _ _ | exact mo_or_lt (by decide) (mo_and_lt (mo_rd_lt _ _)) | exact mo_or_lt (mo_shl_lt _ _) (mo_and_lt (mo_rd_lt _ _)))) sy_oks_nil))))) rfl xl110) (wr_move (wh_ne hw 8 9 (by decide) (by decide) (by decide)) (wh_lt hw 8 (by first | decide | assumption)) (wh_lt hw 9 (by first | decide | assumption)) (wh_at hw 8 rfl) (wh_at hw 9 rfl) (by first | decide | assumption | omega) (by first | decide | assumption | omega) (by first | decide | assumption | omega) (by first | decide | assumption | omega)) (by decide) (by rw [xl110]; decide) sy_refl) ?_
  intro w hw
  simp only [List.set_cons_zero, List.set_cons_succ] at hw
  refine sy_Fs (sy_ildn xc143_18 rfl rfl sy_refl) ?_
  refine sy_Fs (sy_le_f xc143_19 (by decide) hm1 (by omega) sy_refl) ?_
  refine sy_Fs (sy_aldn xc143_22 rfl rfl sy_refl) ?_
  refine sy_Fs (sy_gf xc143_23 xf143_463 rfl (wh_at hw 0 rfl) rfl (fh_at hX0 11 rfl rfl) sy_refl) ?_
  refine sy_Fs (sy_ildn xc143_26 rfl rfl sy_refl) ?_
  refine sy_Fs (sy_aldn xc143_27 rfl rfl sy_refl) ?_
  refine sy_Fs (sy_gf xc143_28 xf143_463 rfl (wh_at hw 0 rfl) rfl (fh_at hX0 11 rfl rfl) sy_refl) ?_
  refine sy_Fs (sy_ildn xc143_31 rfl rfl sy_refl) ?_
  refine sy_Fs (sx_bal (z := (mv_rd 32 (mo_T Gv 0 Hd 0 105) place)) xc143_32 (wh_at hw 9 rfl) hp (by decide) rfl) ?_
  refine sy_Fs (sy_ildn xc143_33 rfl rfl sy_refl) ?_
  refine sy_Fs (sx_ixor (z := (mo_xor (mv_rd 32 (mo_T Gv 0 Hd 0 105) place) mask)) xc143_34 rfl) ?_
  refine sy_Fs (sx_i2b (z := (mn_b (mo_xor (mv_rd 32 (mo_T Gv 0 Hd 0 105) place) mask))) xc143_35 rfl) ?_
  refine sy_Fw (i := 9) (x := (1, 1, 105, (rg_G (mo_T Gv 0 Hd 0 105) place mask))) hw (by decide) (sy_bas (i := place) xc143_36 (wh_at hw 9 rfl) rfl hp (by decide) rfl sy_refl) ?_
  intro w hw
  simp only [List.set_cons_zero, List.set_cons_succ] at hw
  refine sy_Fs (sy_aldn xc143_37 rfl rfl sy_refl) ?_
  refine sy_Fs (sy_aldn xc143_38 rfl rfl sy_refl) ?_
  refine sy_Fs (sy_gf xc143_39 xf143_463 rfl (wh_at hw 0 rfl) rfl (fh_at hX0 11 rfl rfl) sy_refl) ?_
  refine sy_Fs (sy_iconst (v := 0) xc143_42 (by decide) sy_refl) ?_
  refine sy_Fs (sy_bipush (v := 105) xc143_43 (by decide) (by decide) sy_refl) ?_
  refine sy_Fs (sy_aldn xc143_45 rfl rfl sy_refl) ?_
  refine sy_Fs (sy_gf xc143_46 xf143_466 rfl (wh_at hw 0 rfl) rfl (fh_at hX0 12 rfl rfl) sy_refl) ?_
  refine sy_Fs (sy_iconst (v := 0) xc143_49 (by decide) sy_refl) ?_
  obtain ⟨w, X0, P1, W1, V1, S1, M1, T1, u1, l1, hC, hw1, hX1x, ⟨hu1, hl1⟩, hT1⟩ := wr_hash (n := n) (fa := 0) (at_ := 0) (nn := 105) (it := 10) (jf := 9) (f := f) hw rfl rfl rfl rfl rfl rfl rfl rfl rfl (by decide) (by decide) rfl (by decide) (by decide) hX0 rfl rfl rfl rfl rfl rfl rfl rfl rfl (by first | decide | assumption | omega) (by first | decide | assumption | omega) (by first | decide | assumption | omega) (by first | decide | assumption | omega) hA hf (by first | decide | assumption | omega)
  refine sy_Fs (sy_callG (kd := 3) (as := [(2, pl 0, 0), (2, pl 9, 0), (0, 0, 0), (0, 105, 0), (2, pl 10, 0), (0, 0, 0)]) (S0 := []) (ret := []) xc143_50 (sy_calV (as := [(2, pl 0, 0), (2, pl 9, 0), (0, 0, 0), (0, 105, 0), (2, pl 10, 0), (0, 0, 0)]) (S0 := []) xm143_156 rfl rfl) rfl rfl (sy_rcvm xi100 (wh_at hw 0 rfl)) rfl (sy_oka (sy_oks_cons (sy_ok2 (wh_lt hw 0 (by first | decide | assumption))) (sy_oks_cons (sy_ok2 (wh_lt hw 9 (by first | decide | assumption))) (sy_oks_cons (sy_ok0 (by first | decide | assumption | omega | exact mo_rd_lt _ _ | exact mo_add_lt _ _ | exact mo_sub_lt _ _ | exact mo_mul_lt _ _ | exact mo_shl_lt _ _ | exact mo_ushr_lt _ _ | exact mo_or_lt (by decide) (mo_and_lt (mo_rd_lt _ _)) | exact mo_or_lt (mo_shl_lt _ _) (mo_and_lt (mo_rd_lt _ _)))) (sy_oks_cons (sy_ok0 (by first | decide | assumption | omega | exact mo_rd_lt _ _ | exact mo_add_lt _ _ | exact mo_sub_lt _ _ | exact mo_mul_lt _ _ | exact mo_shl_lt _ _ | exact mo_ushr_lt _ _ | exact mo_or_lt (by decide) (mo_and_lt (mo_rd_lt _ _)) | exact mo_or_lt (mo_shl_lt _ _) (mo_and_lt (mo_rd_lt _ _)))) (sy_oks_cons (sy_ok2 (wh_lt hw 10 (by first | decide | assumption))) (sy_oks_cons (sy_ok0 (by first | decide | assumption | omega | exact mo_rd_lt _ _ | exact mo_add_lt _ _ | exact mo_sub_lt _ _ | exact mo_mul_lt _ _ | exact mo_shl_lt _ _ | exact mo_ushr_lt _ _ | exact mo_or_lt (by decide) (mo_and_lt (mo_rd_lt _ _)) | exact mo_or_lt (mo_shl_lt _ _) (mo_and_lt (mo_rd_lt _ _)))) sy_oks_nil)))))) rfl xl100) hC (by decide) (by rw [xl100]; decide) sy_refl) ?_
  replace hw := hw1
  replace hX0 := hX1x
  simp only [List.set_cons_zero, List.set_cons_succ] at hw hX0
  refine sy_Fs (sy_aldn xc143_53 rfl rfl sy_refl) ?_
  refine sy_Fs (sy_aldn xc143_54 rfl rfl sy_refl) ?_
  refine sy_Fs (sy_gf xc143_55 xf143_466 rfl (wh_at hw 0 rfl) rfl (fh_at hX0 12 rfl rfl) sy_refl) ?_
  refine sy_Fs (sy_iconst (v := 0) xc143_58 (by decide) sy_refl) ?_
  refine sy_Fs (sy_callG (kd := 3) (as := [(2, pl 0, 0), (2, pl 10, 0), (0, 0, 0)]) (S0 := []) (ret := [(0, (rf_a Hi T1 0), 0)]) xc143_59 (sy_calV (as := [(2, pl 0, 0), (2, pl 10, 0), (0, 0, 0)]) (S0 := []) xm143_675 rfl rfl) rfl rfl (sy_rcvm xi144 (wh_at hw 0 rfl)) rfl (sy_oka (sy_oks_cons (sy_ok2 (wh_lt hw 0 (by first | decide | assumption))) (sy_oks_cons (sy_ok2 (wh_lt hw 10 (by first | decide | assumption))) (sy_oks_cons (sy_ok0 (by first | decide | assumption | omega | exact mo_rd_lt _ _ | exact mo_add_lt _ _ | exact mo_sub_lt _ _ | exact mo_mul_lt _ _ | exact mo_shl_lt _ _ | exact mo_ushr_lt _ _ | exact mo_or_lt (by decide) (mo_and_lt (mo_rd_lt _ _)) | exact mo_or_lt (mo_shl_lt _ _) (mo_and_lt (mo_rd_lt _ _)))) sy_oks_nil))) rfl xl144) (sy_Cw (wr_find (n := n) hw hX0 (jf := 10) (at_ := 0) (by decide) rfl (by first | decide | assumption | omega) (by first | decide | assumption | omega))) (by decide) (by rw [xl144]; decide) sy_refl) ?_
  cases hb : sb_eq Hi 0 T1 0 32 with
  | true =>
    have e : rf_a Hi T1 0 = 0 := by unfold rf_a; rw [hb]; rfl
    refine sy_Fs (sy_iflt_f xc143_62 (by decide) (by rw [e]; decide) sy_refl) ?_
    refine sy_Fs (sy_iconst (v := 2) xc143_65 (by decide) sy_refl) ?_
    exact sy_Fi xc143_66 xr143 rfl ⟨T1, fun j hj => by rw [hT1 j, if_pos (by omega)]; rfl, by unfold gh_a; rw [hb]; rfl⟩
  | false =>
    have e : rf_a Hi T1 0 = 4294967294 := by unfold rf_a; rw [hb]; rfl
    have eG : rf_a Hi (rg_G (mo_T Gv 0 Hd 0 105) place mask) 0 = 4294967294 := by unfold rf_a; rw [hG]; rfl
    refine sy_Fs (sy_iflt_t (pc' := 67) xc143_62 (by decide) (by rw [e]; decide) (by rw [e]; decide) (by decide) sy_refl) ?_
    refine sy_Fs (sy_aldn xc143_67 rfl rfl sy_refl) ?_
    refine sy_Fs (sy_aldn xc143_68 rfl rfl sy_refl) ?_
    refine sy_Fs (sy_gf xc143_69 xf143_463 rfl (wh_at hw 0 rfl) rfl (fh_at hX0 11 rfl rfl) sy_refl) ?_
    refine sy_Fs (sy_iconst (v := 0) xc143_72 (by decide) sy_refl) ?_
    refine sy_Fs (sy_callG (kd := 3) (as := [(2, pl 0, 0), (2, pl 9, 0), (0, 0, 0)]) (S0 := []) (ret := [(0, (rf_a Hi (rg_G (mo_T Gv 0 Hd 0 105) place mask) 0), 0)]) xc143_73 (sy_calV (as := [(2, pl 0, 0), (2, pl 9, 0), (0, 0, 0)]) (S0 := []) xm143_675 rfl rfl) rfl rfl (sy_rcvm xi144 (wh_at hw 0 rfl)) rfl (sy_oka (sy_oks_cons (sy_ok2 (wh_lt hw 0 (by first | decide | assumption))) (sy_oks_cons (sy_ok2 (wh_lt hw 9 (by first | decide | assumption))) (sy_oks_cons (sy_ok0 (by first | decide | assumption | omega | exact mo_rd_lt _ _ | exact mo_add_lt _ _ | exact mo_sub_lt _ _ | exact mo_mul_lt _ _ | exact mo_shl_lt _ _ | exact mo_ushr_lt _ _ | exact mo_or_lt (by decide) (mo_and_lt (mo_rd_lt _ _)) | exact mo_or_lt (mo_shl_lt _ _) (mo_and_lt (mo_rd_lt _ _)))) sy_oks_nil))) rfl xl144) (sy_Cw (wr_find (n := n) hw hX0 (jf := 9) (at_ := 0) (by decide) rfl (by first | decide | assumption | omega) (by first | decide | assumption | omega))) (by decide) (by rw [xl144]; decide) sy_refl) ?_
    rw [eG]
    refine sy_Fs (sx_ist (j := 4) (ls' := [(2, pl 0, 0), (0, 0, 0), (0, place, 0), (0, mask, 0), (0, 4294967294, 0), (255, 0, 0), (255, 0, 0), (255, 0, 0)]) xc143_76 rfl (sy_ok0 (by first | decide | assumption | omega | exact mo_rd_lt _ _ | exact mo_add_lt _ _ | exact mo_sub_lt _ _ | exact mo_mul_lt _ _ | exact mo_shl_lt _ _ | exact mo_ushr_lt _ _ | exact mo_or_lt (by decide) (mo_and_lt (mo_rd_lt _ _)) | exact mo_or_lt (mo_shl_lt _ _) (mo_and_lt (mo_rd_lt _ _)))) (by rw [xl143]; rfl) rfl rfl) ?_
    refine sy_Fs (sy_ild xc143_78 rfl rfl sy_refl) ?_
    refine sy_Fs (sy_ifge_f xc143_80 (by decide) (by decide) (by decide) sy_refl) ?_
    refine sy_Fs (sy_iconst (v := 0) xc143_83 (by decide) sy_refl) ?_
    exact sy_Fi xc143_84 xr143 rfl ⟨T1, fun j hj => by rw [hT1 j, if_pos (by omega)]; rfl, by unfold gh_a; rw [hb]; rfl⟩
theorem rg_give (hw : wh 29 pl w0 w [(0, 0, 107, X0), (1, 1, 64, Pc), (1, 0, 64, mc_K), (1, 0, 64, Wd), (1, 0, 8, Vv), (1, 0, 8, St), (1, 0, 8, Af), (1, 1, 32, Mi), (1, 1, 4200, Hd), (1, 1, 105, Gv), (1, 1, 32, Gi), (1, 1, 1920, Hi), (1, 1, 1280, Bi), (1, 1, 6300, Hb), (1, 1, 3200, Fl), (1, 1, 1900, Of), (1, 1, 32, Ou), (1, 0, 40, Fs), (1, 0, 40, Bs), (1, 2, 60, Hf), (1, 2, 60, Hh), (1, 1, 76000, Bb), (1, 1, 2304, Oi), (1, 1, 2400, Ly), (1, 0, 60, Hw), (1, 0, 60, He), (1, 0, 60, Ht), (1, 0, 60, Ca), (1, 0, 2, Lu)]) (hX0 : fh X0 jR [(0, th, 0), (2, pl 1, 0), (2, pl 2, 0), (2, pl 3, 0), (2, pl 4, 0), (2, pl 5, 0), (2, pl 6, 0), (2, pl 7, 0), (0, up, 0), (1, lp, 0), (2, pl 8, 0), (2, pl 9, 0), (2, pl 10, 0), (2, pl 11, 0), (2, pl 12, 0), (2, pl 13, 0), (2, pl 14, 0), (2, pl 15, 0), (2, pl 16, 0), (2, pl 17, 0), (2, pl 18, 0), (2, pl 19, 0), (2, pl 20, 0), (2, pl 21, 0), (2, pl 22, 0), (2, pl 23, 0), (2, pl 24, 0), (2, pl 25, 0), (2, pl 26, 0), (2, pl 27, 0), (2, pl 28, 0), (0, 1, 0), (0, 1, 0), (0, oc, 0), (0, co, 0), (0, so, 0), (0, ms, 0), (0, bh, 0), (0, 0, 0)]) {place mask : Nat} {f : Nat → Nat} (hp : place < 105) (hm1 : 0 < mask) (hm2 : mask ≤ 255) (hA : ∀ i, i < 8 → mv_rd 32 Af i = mv_rd 32 hs_S0 i) (hf : ∀ j, j < 105 → mv_rd 32 (rg_G (mo_T Gv 0 Hd 0 105) place mask) (0 + j) = f j) (hG : sb_eq Hi 0 (rg_G (mo_T Gv 0 Hd 0 105) place mask) 0 32 = false) : sy_D 142 n 6 149 [(2, pl 0, 0), (0, 0, 0), (0, 0, 0), (0, place, 0), (0, mask, 0)] w (fun ret _ => ∃ T : Nat, (∀ j, j < 32 → mv_rd 32 T j = bk_D (hs_2 f 105) j) ∧ ret = [(0, gh_a Hi T, 0)]) := by
  refine sy_Dof (us := [(255, 0, 0), (255, 0, 0)]) (sy_oks_cons (sy_ok2 (wh_lt hw 0 (by first | decide | assumption))) (sy_oks_cons (sy_ok0 (by first | decide | assumption | omega | exact mo_rd_lt _ _ | exact mo_add_lt _ _ | exact mo_sub_lt _ _ | exact mo_mul_lt _ _ | exact mo_shl_lt _ _ | exact mo_ushr_lt _ _ | exact mo_or_lt (by decide) (mo_and_lt (mo_rd_lt _ _)) | exact mo_or_lt (mo_shl_lt _ _) (mo_and_lt (mo_rd_lt _ _)))) (sy_oks_cons (sy_ok0 (by first | decide | assumption | omega | exact mo_rd_lt _ _ | exact mo_add_lt _ _ | exact mo_sub_lt _ _ | exact mo_mul_lt _ _ | exact mo_shl_lt _ _ | exact mo_ushr_lt _ _ | exact mo_or_lt (by decide) (mo_and_lt (mo_rd_lt _ _)) | exact mo_or_lt (mo_shl_lt _ _) (mo_and_lt (mo_rd_lt _ _)))) (sy_oks_cons (sy_ok0 (by first | decide | assumption | omega | exact mo_rd_lt _ _ | exact mo_add_lt _ _ | exact mo_sub_lt _ _ | exact mo_mul_lt _ _ | exact mo_shl_lt _ _ | exact mo_ushr_lt _ _ | exact mo_or_lt (by decide) (mo_and_lt (mo_rd_lt _ _)) | exact mo_or_lt (mo_shl_lt _ _) (mo_and_lt (mo_rd_lt _ _)))) (sy_oks_cons (sy_ok0 (by first | decide | assumption | omega | exact mo_rd_lt _ _ | exact mo_add_lt _ _ | exact mo_sub_lt _ _ | exact mo_mul_lt _ _ | exact mo_shl_lt _ _ | exact mo_ushr_lt _ _ | exact mo_or_lt (by decide) (mo_and_lt (mo_rd_lt _ _)) | exact mo_or_lt (mo_shl_lt _ _) (mo_and_lt (mo_rd_lt _ _)))) sy_oks_nil))))) rfl rfl ?_
  show sy_F 142 n 6 149 0 [(2, pl 0, 0), (0, 0, 0), (0, 0, 0), (0, place, 0), (0, mask, 0), (255, 0, 0), (255, 0, 0)] [] w _
  refine sy_Fs (sy_aldn xc142_0 rfl rfl sy_refl) ?_
  refine sy_Fs (sy_iconst (v := 0) xc142_1 (by decide) sy_refl) ?_
  refine sy_Ff (i := 0) (q := 0) (v := (0, 0, 0)) hw hX0 (by decide) (by decide) rfl (sy_ok0 (by first | decide | assumption | omega | exact mo_rd_lt _ _ | exact mo_add_lt _ _ | exact mo_sub_lt _ _ | exact mo_mul_lt _ _ | exact mo_shl_lt _ _ | exact mo_ushr_lt _ _ | exact mo_or_lt (by decide) (mo_and_lt (mo_rd_lt _ _)) | exact mo_or_lt (mo_shl_lt _ _) (mo_and_lt (mo_rd_lt _ _)))) (sy_pfi xc142_2 xf142_1 rfl xt0_0 xn0_0 (wh_at hw 0 rfl) rfl (by first | decide | assumption | omega | exact mo_rd_lt _ _ | exact mo_add_lt _ _ | exact mo_sub_lt _ _ | exact mo_mul_lt _ _ | exact mo_shl_lt _ _ | exact mo_ushr_lt _ _ | exact mo_or_lt (by decide) (mo_and_lt (mo_rd_lt _ _)) | exact mo_or_lt (mo_shl_lt _ _) (mo_and_lt (mo_rd_lt _ _))) rfl sy_refl) ?_
  intro w X0 hw hX0
  simp only [List.set_cons_zero, List.set_cons_succ] at hw hX0
  refine sy_Fs (sy_aldn xc142_5 rfl rfl sy_refl) ?_
  refine sy_Fs (sy_ildn xc142_6 rfl rfl sy_refl) ?_
  refine sy_Fs (sy_callG (kd := 3) (as := [(2, pl 0, 0), (0, 0, 0)]) (S0 := []) (ret := [(0, 0, 0)]) xc142_7 (sy_calV (as := [(2, pl 0, 0), (0, 0, 0)]) (S0 := []) xm142_662 rfl rfl) rfl rfl (sy_rcvm xi136 (wh_at hw 0 rfl)) rfl (sy_oka (sy_oks_cons (sy_ok2 (wh_lt hw 0 (by first | decide | assumption))) (sy_oks_cons (sy_ok0 (by first | decide | assumption | omega | exact mo_rd_lt _ _ | exact mo_add_lt _ _ | exact mo_sub_lt _ _ | exact mo_mul_lt _ _ | exact mo_shl_lt _ _ | exact mo_ushr_lt _ _ | exact mo_or_lt (by decide) (mo_and_lt (mo_rd_lt _ _)) | exact mo_or_lt (mo_shl_lt _ _) (mo_and_lt (mo_rd_lt _ _)))) sy_oks_nil)) rfl xl136) (sy_Cw (wr_noBlock (n := n) hw hX0)) (by decide) (by rw [xl136]; decide) sy_refl) ?_
  refine sy_Fs (sy_ifne_f xc142_10 (by decide) (by decide) sy_refl) ?_
  refine sy_Fs (sy_ildn xc142_13 rfl rfl sy_refl) ?_
  refine sy_Fs (sx_i2l xc142_14 (by first | decide | assumption | omega | exact mo_rd_lt _ _ | exact mo_add_lt _ _ | exact mo_sub_lt _ _ | exact mo_mul_lt _ _ | exact mo_shl_lt _ _ | exact mo_ushr_lt _ _ | exact mo_or_lt (by decide) (mo_and_lt (mo_rd_lt _ _)) | exact mo_or_lt (mo_shl_lt _ _) (mo_and_lt (mo_rd_lt _ _)))) ?_
  refine sy_Fs (sy_lconst xc142_15 sy_refl) ?_
  refine sy_Fs (sy_ldc2 (v := 2) xc142_16 xk142_55 sy_refl) ?_
  refine sy_Fs (sy_callG (kd := 1) (as := [(1, 0, 0), (1, 0, 0), (1, 2, 0)]) (S0 := []) (ret := [(0, 1, 0)]) xc142_19 (sy_calS (as := [(1, 0, 0), (1, 0, 0), (1, 2, 0)]) (S0 := []) xm142_147 rfl rfl) rfl rfl rfl rfl (sy_oka (sy_oks_cons (sy_ok1 (by first | decide | assumption | omega | exact mo_rd_lt _ _ | exact mo_add_lt _ _ | exact mo_sub_lt _ _ | exact mo_mul_lt _ _ | exact mo_shl_lt _ _ | exact mo_ushr_lt _ _ | exact mo_or_lt (by decide) (mo_and_lt (mo_rd_lt _ _)) | exact mo_or_lt (mo_shl_lt _ _) (mo_and_lt (mo_rd_lt _ _)))) (sy_oks_cons (sy_ok1 (by first | decide | assumption | omega | exact mo_rd_lt _ _ | exact mo_add_lt _ _ | exact mo_sub_lt _ _ | exact mo_mul_lt _ _ | exact mo_shl_lt _ _ | exact mo_ushr_lt _ _ | exact mo_or_lt (by decide) (mo_and_lt (mo_rd_lt _ _)) | exact mo_or_lt (mo_shl_lt _ _) (mo_and_lt (mo_rd_lt _ _)))) (sy_oks_cons (sy_ok1 (by first | decide | assumption | omega | exact mo_rd_lt _ _ | exact mo_add_lt _ _ | exact mo_sub_lt _ _ | exact mo_mul_lt _ _ | exact mo_shl_lt _ _ | exact mo_ushr_lt _ _ | exact mo_or_lt (by decide) (mo_and_lt (mo_rd_lt _ _)) | exact mo_or_lt (mo_shl_lt _ _) (mo_and_lt (mo_rd_lt _ _)))) sy_oks_nil))) rfl xl98) (wr_in (n := n) (by first | decide | assumption | omega) (by first | decide | assumption | omega) (by first | decide | assumption | omega)) (by decide) (by rw [xl98]; decide) sy_refl) ?_
  refine sy_Fs (sy_ifeq_f xc142_22 (by decide) (by decide) (by decide) sy_refl) ?_
  refine sy_Fs (sy_ild xc142_25 rfl rfl sy_refl) ?_
  refine sy_Fs (sx_i2l xc142_27 (by first | decide | assumption | omega | exact mo_rd_lt _ _ | exact mo_add_lt _ _ | exact mo_sub_lt _ _ | exact mo_mul_lt _ _ | exact mo_shl_lt _ _ | exact mo_ushr_lt _ _ | exact mo_or_lt (by decide) (mo_and_lt (mo_rd_lt _ _)) | exact mo_or_lt (mo_shl_lt _ _) (mo_and_lt (mo_rd_lt _ _)))) ?_
  refine sy_Fs (sy_lconst xc142_28 sy_refl) ?_
  refine sy_Fs (sy_ldc2 (v := 255) xc142_29 xk142_693 sy_refl) ?_
  refine sy_Fs (sy_callG (kd := 1) (as := [(1, mask, 0), (1, 0, 0), (1, 255, 0)]) (S0 := []) (ret := [(0, 1, 0)]) xc142_32 (sy_calS (as := [(1, mask, 0), (1, 0, 0), (1, 255, 0)]) (S0 := []) xm142_147 rfl rfl) rfl rfl rfl rfl (sy_oka (sy_oks_cons (sy_ok1 (by first | decide | assumption | omega | exact mo_rd_lt _ _ | exact mo_add_lt _ _ | exact mo_sub_lt _ _ | exact mo_mul_lt _ _ | exact mo_shl_lt _ _ | exact mo_ushr_lt _ _ | exact mo_or_lt (by decide) (mo_and_lt (mo_rd_lt _ _)) | exact mo_or_lt (mo_shl_lt _ _) (mo_and_lt (mo_rd_lt _ _)))) (sy_oks_cons (sy_ok1 (by first | decide | assumption | omega | exact mo_rd_lt _ _ | exact mo_add_lt _ _ | exact mo_sub_lt _ _ | exact mo_mul_lt _ _ | exact mo_shl_lt _ _ | exact mo_ushr_lt _ _ | exact mo_or_lt (by decide) (mo_and_lt (mo_rd_lt _ _)) | exact mo_or_lt (mo_shl_lt _ _) (mo_and_lt (mo_rd_lt _ _)))) (sy_oks_cons (sy_ok1 (by first | decide | assumption | omega | exact mo_rd_lt _ _ | exact mo_add_lt _ _ | exact mo_sub_lt _ _ | exact mo_mul_lt _ _ | exact mo_shl_lt _ _ | exact mo_ushr_lt _ _ | exact mo_or_lt (by decide) (mo_and_lt (mo_rd_lt _ _)) | exact mo_or_lt (mo_shl_lt _ _) (mo_and_lt (mo_rd_lt _ _)))) sy_oks_nil))) rfl xl98) (wr_in (n := n) (by first | decide | assumption | omega) (by first | decide | assumption | omega) (by first | decide | assumption | omega)) (by decide) (by rw [xl98]; decide) sy_refl) ?_
  refine sy_Fs (sy_ifne_t (pc' := 40) xc142_35 (by decide) (by decide) (by decide) (by decide) sy_refl) ?_
  refine sy_Fs (sy_ildn xc142_40 rfl rfl sy_refl) ?_
  refine sy_Fs (sy_ifne_f xc142_41 (by decide) (by decide) sy_refl) ?_
  refine sy_Fs (sy_bipush (v := 105) xc142_44 (by decide) (by decide) sy_refl) ?_
  refine sy_Fs (sy_goto (pc' := 69) xc142_46 (by decide) (by decide) sy_refl) ?_
  refine sy_Fs (sx_ist (j := 5) (ls' := [(2, pl 0, 0), (0, 0, 0), (0, 0, 0), (0, place, 0), (0, mask, 0), (0, 105, 0), (255, 0, 0)]) xc142_69 rfl (sy_ok0 (by first | decide | assumption | omega | exact mo_rd_lt _ _ | exact mo_add_lt _ _ | exact mo_sub_lt _ _ | exact mo_mul_lt _ _ | exact mo_shl_lt _ _ | exact mo_ushr_lt _ _ | exact mo_or_lt (by decide) (mo_and_lt (mo_rd_lt _ _)) | exact mo_or_lt (mo_shl_lt _ _) (mo_and_lt (mo_rd_lt _ _)))) (by rw [xl142]; rfl) rfl rfl) ?_
  refine sy_Fs (sy_ild xc142_71 rfl rfl sy_refl) ?_
  refine sy_Fs (sy_le_f xc142_73 (by decide) hm1 (by omega) sy_refl) ?_
  refine sy_Fs (sy_ildn xc142_76 rfl rfl sy_refl) ?_
  refine sy_Fs (sx_i2l xc142_77 (by first | decide | assumption | omega | exact mo_rd_lt _ _ | exact mo_add_lt _ _ | exact mo_sub_lt _ _ | exact mo_mul_lt _ _ | exact mo_shl_lt _ _ | exact mo_ushr_lt _ _ | exact mo_or_lt (by decide) (mo_and_lt (mo_rd_lt _ _)) | exact mo_or_lt (mo_shl_lt _ _) (mo_and_lt (mo_rd_lt _ _)))) ?_
  refine sy_Fs (sy_lconst xc142_78 sy_refl) ?_
  refine sy_Fs (sy_ild xc142_79 rfl rfl sy_refl) ?_
  refine sy_Fs (sy_iconst (v := 1) xc142_81 (by decide) sy_refl) ?_
  refine sy_Fs (sx_isub (z := 104) xc142_82 (by decide)) ?_
  refine sy_Fs (sx_i2l xc142_83 (by first | decide | assumption | omega | exact mo_rd_lt _ _ | exact mo_add_lt _ _ | exact mo_sub_lt _ _ | exact mo_mul_lt _ _ | exact mo_shl_lt _ _ | exact mo_ushr_lt _ _ | exact mo_or_lt (by decide) (mo_and_lt (mo_rd_lt _ _)) | exact mo_or_lt (mo_shl_lt _ _) (mo_and_lt (mo_rd_lt _ _)))) ?_
  refine sy_Fs (sy_callG (kd := 1) (as := [(1, place, 0), (1, 0, 0), (1, 104, 0)]) (S0 := []) (ret := [(0, 1, 0)]) xc142_84 (sy_calS (as := [(1, place, 0), (1, 0, 0), (1, 104, 0)]) (S0 := []) xm142_147 rfl rfl) rfl rfl rfl rfl (sy_oka (sy_oks_cons (sy_ok1 (by first | decide | assumption | omega | exact mo_rd_lt _ _ | exact mo_add_lt _ _ | exact mo_sub_lt _ _ | exact mo_mul_lt _ _ | exact mo_shl_lt _ _ | exact mo_ushr_lt _ _ | exact mo_or_lt (by decide) (mo_and_lt (mo_rd_lt _ _)) | exact mo_or_lt (mo_shl_lt _ _) (mo_and_lt (mo_rd_lt _ _)))) (sy_oks_cons (sy_ok1 (by first | decide | assumption | omega | exact mo_rd_lt _ _ | exact mo_add_lt _ _ | exact mo_sub_lt _ _ | exact mo_mul_lt _ _ | exact mo_shl_lt _ _ | exact mo_ushr_lt _ _ | exact mo_or_lt (by decide) (mo_and_lt (mo_rd_lt _ _)) | exact mo_or_lt (mo_shl_lt _ _) (mo_and_lt (mo_rd_lt _ _)))) (sy_oks_cons (sy_ok1 (by first | decide | assumption | omega | exact mo_rd_lt _ _ | exact mo_add_lt _ _ | exact mo_sub_lt _ _ | exact mo_mul_lt _ _ | exact mo_shl_lt _ _ | exact mo_ushr_lt _ _ | exact mo_or_lt (by decide) (mo_and_lt (mo_rd_lt _ _)) | exact mo_or_lt (mo_shl_lt _ _) (mo_and_lt (mo_rd_lt _ _)))) sy_oks_nil))) rfl xl98) (wr_in (n := n) (by first | decide | assumption | omega) (by first | decide | assumption | omega) (by first | decide | assumption | omega)) (by decide) (by rw [xl98]; decide) sy_refl) ?_
  refine sy_Fs (sy_ifne_t (pc' := 92) xc142_87 (by decide) (by decide) (by decide) (by decide) sy_refl) ?_
  refine sy_Fs (sy_ildn xc142_92 rfl rfl sy_refl) ?_
  refine sy_Fs (sy_ifne_f xc142_93 (by decide) (by decide) sy_refl) ?_
  refine sy_Fs (sy_aldn xc142_96 rfl rfl sy_refl) ?_
  refine sy_Fs (sy_ildn xc142_97 rfl rfl sy_refl) ?_
  refine sy_Fs (sy_ildn xc142_98 rfl rfl sy_refl) ?_
  refine sy_Fs (sy_ild xc142_99 rfl rfl sy_refl) ?_
  obtain ⟨ret, w, ⟨T, hT, rfl⟩, hC⟩ := rg_head (n := n) hw hX0 hp hm1 hm2 hA hf hG
  refine sy_Fs (sy_callG (kd := 3) (as := [(2, pl 0, 0), (0, 0, 0), (0, place, 0), (0, mask, 0)]) (S0 := []) (ret := [(0, (gh_a Hi T), 0)]) xc142_101 (sy_calV (as := [(2, pl 0, 0), (0, 0, 0), (0, place, 0), (0, mask, 0)]) (S0 := []) xm142_695 rfl rfl) rfl rfl (sy_rcvm xi143 (wh_at hw 0 rfl)) rfl (sy_oka (sy_oks_cons (sy_ok2 (wh_lt hw 0 (by first | decide | assumption))) (sy_oks_cons (sy_ok0 (by first | decide | assumption | omega | exact mo_rd_lt _ _ | exact mo_add_lt _ _ | exact mo_sub_lt _ _ | exact mo_mul_lt _ _ | exact mo_shl_lt _ _ | exact mo_ushr_lt _ _ | exact mo_or_lt (by decide) (mo_and_lt (mo_rd_lt _ _)) | exact mo_or_lt (mo_shl_lt _ _) (mo_and_lt (mo_rd_lt _ _)))) (sy_oks_cons (sy_ok0 (by first | decide | assumption | omega | exact mo_rd_lt _ _ | exact mo_add_lt _ _ | exact mo_sub_lt _ _ | exact mo_mul_lt _ _ | exact mo_shl_lt _ _ | exact mo_ushr_lt _ _ | exact mo_or_lt (by decide) (mo_and_lt (mo_rd_lt _ _)) | exact mo_or_lt (mo_shl_lt _ _) (mo_and_lt (mo_rd_lt _ _)))) (sy_oks_cons (sy_ok0 (by first | decide | assumption | omega | exact mo_rd_lt _ _ | exact mo_add_lt _ _ | exact mo_sub_lt _ _ | exact mo_mul_lt _ _ | exact mo_shl_lt _ _ | exact mo_ushr_lt _ _ | exact mo_or_lt (by decide) (mo_and_lt (mo_rd_lt _ _)) | exact mo_or_lt (mo_shl_lt _ _) (mo_and_lt (mo_rd_lt _ _)))) sy_oks_nil)))) rfl xl143) hC (by decide) (by rw [xl143]; decide) sy_refl) ?_
  exact sy_Fi xc142_104 xr142 rfl ⟨T, hT, rfl⟩
end RG
