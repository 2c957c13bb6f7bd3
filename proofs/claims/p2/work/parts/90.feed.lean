/-! FEED AND CUT, FROM ANY STATE OF THE TAPE -/
theorem xc96_0 : tt_cd 96 0 = (2, .iconst 0, 1) := by decide +kernel
theorem xc96_1 : tt_cd 96 1 = (1, .istore_n 3, 1) := by decide +kernel
theorem xl96 : tt_mL 96 = 4 := by decide +kernel
theorem xc96_2 : tt_cd 96 2 = (1, .iload_n 3, 1) := by decide +kernel
theorem xc96_3 : tt_cd 96 3 = (2, .iconst 4, 1) := by decide +kernel
theorem xc96_4 : tt_cd 96 4 = (5, .if_icmp .ge 24, 3) := by decide +kernel
theorem xc96_7 : tt_cd 96 7 = (1, .aload_n 0, 1) := by decide +kernel
theorem xc96_8 : tt_cd 96 8 = (1, .iload_n 1, 1) := by decide +kernel
theorem xc96_9 : tt_cd 96 9 = (1, .iload_n 3, 1) := by decide +kernel
theorem xc96_10 : tt_cd 96 10 = (2, .iadd, 1) := by decide +kernel
theorem xc96_11 : tt_cd 96 11 = (1, .iload_n 2, 1) := by decide +kernel
theorem xc96_12 : tt_cd 96 12 = (4, .bipush 24, 2) := by decide +kernel
theorem xc96_14 : tt_cd 96 14 = (4, .bipush 8, 2) := by decide +kernel
theorem xc96_16 : tt_cd 96 16 = (1, .iload_n 3, 1) := by decide +kernel
theorem xc96_17 : tt_cd 96 17 = (2, .imul, 1) := by decide +kernel
theorem xc96_18 : tt_cd 96 18 = (2, .isub, 1) := by decide +kernel
theorem xc96_19 : tt_cd 96 19 = (2, .iushr, 1) := by decide +kernel
theorem xc96_20 : tt_cd 96 20 = (2, .i2b, 1) := by decide +kernel
theorem xc96_21 : tt_cd 96 21 = (6, .bastore, 1) := by decide +kernel
theorem xc96_22 : tt_cd 96 22 = (1, .iinc 3 1, 3) := by decide +kernel
theorem xc96_25 : tt_cd 96 25 = (5, .goto (-23), 3) := by decide +kernel
theorem xc96_28 : tt_cd 96 28 = (9, .return_, 1) := by decide +kernel
theorem xr96 : tt_mr 96 = 0 := by decide +kernel
theorem xc55_0 : tt_cd 55 0 = (1, .aload_n 0, 1) := by decide +kernel
theorem xc55_1 : tt_cd 55 1 = (3, .getfield 103, 3) := by decide +kernel
theorem xf55_103 : tt_fl 55 103 = (1, 1, 1) := by decide +kernel
theorem xc55_4 : tt_cd 55 4 = (4, .bipush 20, 2) := by decide +kernel
theorem xc55_6 : tt_cd 55 6 = (2, .iadd, 1) := by decide +kernel
theorem xc55_7 : tt_cd 55 7 = (4, .sipush 200, 3) := by decide +kernel
theorem xc55_10 : tt_cd 55 10 = (5, .if_icmp .le 6, 3) := by decide +kernel
theorem xc55_13 : tt_cd 55 13 = (4, .bipush (-3), 2) := by decide +kernel
theorem xc55_15 : tt_cd 55 15 = (9, .ireturn, 1) := by decide +kernel
theorem xr55 : tt_mr 55 = 1 := by decide +kernel
theorem xc55_16 : tt_cd 55 16 = (1, .iload_n 1, 1) := by decide +kernel
theorem xc55_17 : tt_cd 55 17 = (1, .aload_n 0, 1) := by decide +kernel
theorem xc55_18 : tt_cd 55 18 = (3, .getfield 9, 3) := by decide +kernel
theorem xf55_9 : tt_fl 55 9 = (1, 1, 0) := by decide +kernel
theorem xc55_21 : tt_cd 55 21 = (1, .aload_n 0, 1) := by decide +kernel
theorem xc55_22 : tt_cd 55 22 = (3, .getfield 103, 3) := by decide +kernel
theorem xc55_25 : tt_cd 55 25 = (10, .invokestatic 107, 3) := by decide +kernel
theorem xm55_107 : tt_ml 55 107 = (1, 11, 3) := by decide +kernel
theorem xl11 : tt_mL 11 = 3 := by decide +kernel
theorem xc55_28 : tt_cd 55 28 = (1, .iload_n 2, 1) := by decide +kernel
theorem xc55_29 : tt_cd 55 29 = (1, .aload_n 0, 1) := by decide +kernel
theorem xc55_30 : tt_cd 55 30 = (3, .getfield 9, 3) := by decide +kernel
theorem xc55_33 : tt_cd 55 33 = (1, .aload_n 0, 1) := by decide +kernel
theorem xc55_34 : tt_cd 55 34 = (3, .getfield 103, 3) := by decide +kernel
theorem xc55_37 : tt_cd 55 37 = (2, .iconst 4, 1) := by decide +kernel
theorem xc55_38 : tt_cd 55 38 = (2, .iadd, 1) := by decide +kernel
theorem xc55_39 : tt_cd 55 39 = (10, .invokestatic 107, 3) := by decide +kernel
theorem xc55_42 : tt_cd 55 42 = (1, .iload_n 3, 1) := by decide +kernel
theorem xc55_43 : tt_cd 55 43 = (1, .aload_n 0, 1) := by decide +kernel
theorem xc55_44 : tt_cd 55 44 = (3, .getfield 9, 3) := by decide +kernel
theorem xc55_47 : tt_cd 55 47 = (1, .aload_n 0, 1) := by decide +kernel
theorem xc55_48 : tt_cd 55 48 = (3, .getfield 103, 3) := by decide +kernel
theorem xc55_51 : tt_cd 55 51 = (4, .bipush 8, 2) := by decide +kernel
theorem xc55_53 : tt_cd 55 53 = (2, .iadd, 1) := by decide +kernel
theorem xc55_54 : tt_cd 55 54 = (10, .invokestatic 107, 3) := by decide +kernel
theorem xc55_57 : tt_cd 55 57 = (1, .iload 4, 2) := by decide +kernel
theorem xc55_59 : tt_cd 55 59 = (1, .aload_n 0, 1) := by decide +kernel
theorem xc55_60 : tt_cd 55 60 = (3, .getfield 9, 3) := by decide +kernel
theorem xc55_63 : tt_cd 55 63 = (1, .aload_n 0, 1) := by decide +kernel
theorem xc55_64 : tt_cd 55 64 = (3, .getfield 103, 3) := by decide +kernel
theorem xc55_67 : tt_cd 55 67 = (4, .bipush 12, 2) := by decide +kernel
theorem xc55_69 : tt_cd 55 69 = (2, .iadd, 1) := by decide +kernel
theorem xc55_70 : tt_cd 55 70 = (10, .invokestatic 107, 3) := by decide +kernel
theorem xc55_73 : tt_cd 55 73 = (1, .iload 5, 2) := by decide +kernel
theorem xc55_75 : tt_cd 55 75 = (1, .aload_n 0, 1) := by decide +kernel
theorem xc55_76 : tt_cd 55 76 = (3, .getfield 9, 3) := by decide +kernel
theorem xc55_79 : tt_cd 55 79 = (1, .aload_n 0, 1) := by decide +kernel
theorem xc55_80 : tt_cd 55 80 = (3, .getfield 103, 3) := by decide +kernel
theorem xc55_83 : tt_cd 55 83 = (4, .bipush 16, 2) := by decide +kernel
theorem xc55_85 : tt_cd 55 85 = (2, .iadd, 1) := by decide +kernel
theorem xc55_86 : tt_cd 55 86 = (10, .invokestatic 107, 3) := by decide +kernel
theorem xc55_89 : tt_cd 55 89 = (1, .aload_n 0, 1) := by decide +kernel
theorem xc55_90 : tt_cd 55 90 = (2, .dup, 1) := by decide +kernel
theorem xc55_91 : tt_cd 55 91 = (3, .getfield 103, 3) := by decide +kernel
theorem xc55_94 : tt_cd 55 94 = (4, .bipush 20, 2) := by decide +kernel
theorem xc55_96 : tt_cd 55 96 = (2, .iadd, 1) := by decide +kernel
theorem xc55_97 : tt_cd 55 97 = (6, .putfield 103, 3) := by decide +kernel
theorem xt1_1 : tt_fty 1 1 = .int := by decide +kernel
theorem xn1_1 : tt_ffin 1 1 = false := by decide +kernel
theorem xc55_100 : tt_cd 55 100 = (1, .aload_n 0, 1) := by decide +kernel
theorem xc55_101 : tt_cd 55 101 = (3, .getfield 103, 3) := by decide +kernel
theorem xc55_104 : tt_cd 55 104 = (9, .ireturn, 1) := by decide +kernel
theorem xc95_0 : tt_cd 95 0 = (1, .aload_n 0, 1) := by decide +kernel
theorem xc95_1 : tt_cd 95 1 = (2, .iconst 0, 1) := by decide +kernel
theorem xc95_2 : tt_cd 95 2 = (6, .putfield 1, 3) := by decide +kernel
theorem xf95_1 : tt_fl 95 1 = (1, 0, 0) := by decide +kernel
theorem xt0_0 : tt_fty 0 0 = .int := by decide +kernel
theorem xn0_0 : tt_ffin 0 0 = false := by decide +kernel
theorem xc95_5 : tt_cd 95 5 = (1, .aload_n 0, 1) := by decide +kernel
theorem xc95_6 : tt_cd 95 6 = (3, .getfield 138, 3) := by decide +kernel
theorem xf95_138 : tt_fl 95 138 = (1, 0, 17) := by decide +kernel
theorem xc95_9 : tt_cd 95 9 = (4, .bipush 20, 2) := by decide +kernel
theorem xc95_11 : tt_cd 95 11 = (2, .iadd, 1) := by decide +kernel
theorem xc95_12 : tt_cd 95 12 = (4, .sipush 200, 3) := by decide +kernel
theorem xc95_15 : tt_cd 95 15 = (5, .if_icmp .le 6, 3) := by decide +kernel
theorem xc95_18 : tt_cd 95 18 = (4, .bipush (-3), 2) := by decide +kernel
theorem xc95_20 : tt_cd 95 20 = (9, .ireturn, 1) := by decide +kernel
theorem xr95 : tt_mr 95 = 1 := by decide +kernel
theorem xc95_21 : tt_cd 95 21 = (1, .aload_n 0, 1) := by decide +kernel
theorem xc95_22 : tt_cd 95 22 = (3, .getfield 141, 3) := by decide +kernel
theorem xf95_141 : tt_fl 95 141 = (1, 0, 16) := by decide +kernel
theorem xc95_25 : tt_cd 95 25 = (1, .aload_n 0, 1) := by decide +kernel
theorem xc95_26 : tt_cd 95 26 = (3, .getfield 138, 3) := by decide +kernel
theorem xc95_29 : tt_cd 95 29 = (1, .iload_n 1, 1) := by decide +kernel
theorem xc95_30 : tt_cd 95 30 = (10, .invokestatic 144, 3) := by decide +kernel
theorem xm95_144 : tt_ml 95 144 = (1, 96, 3) := by decide +kernel
theorem xc95_33 : tt_cd 95 33 = (1, .aload_n 0, 1) := by decide +kernel
theorem xc95_34 : tt_cd 95 34 = (3, .getfield 141, 3) := by decide +kernel
theorem xc95_37 : tt_cd 95 37 = (1, .aload_n 0, 1) := by decide +kernel
theorem xc95_38 : tt_cd 95 38 = (3, .getfield 138, 3) := by decide +kernel
theorem xc95_41 : tt_cd 95 41 = (2, .iconst 4, 1) := by decide +kernel
theorem xc95_42 : tt_cd 95 42 = (2, .iadd, 1) := by decide +kernel
theorem xc95_43 : tt_cd 95 43 = (1, .iload_n 2, 1) := by decide +kernel
theorem xc95_44 : tt_cd 95 44 = (10, .invokestatic 144, 3) := by decide +kernel
theorem xc95_47 : tt_cd 95 47 = (1, .aload_n 0, 1) := by decide +kernel
theorem xc95_48 : tt_cd 95 48 = (3, .getfield 141, 3) := by decide +kernel
theorem xc95_51 : tt_cd 95 51 = (1, .aload_n 0, 1) := by decide +kernel
theorem xc95_52 : tt_cd 95 52 = (3, .getfield 138, 3) := by decide +kernel
theorem xc95_55 : tt_cd 95 55 = (4, .bipush 8, 2) := by decide +kernel
theorem xc95_57 : tt_cd 95 57 = (2, .iadd, 1) := by decide +kernel
theorem xc95_58 : tt_cd 95 58 = (1, .iload_n 3, 1) := by decide +kernel
theorem xc95_59 : tt_cd 95 59 = (10, .invokestatic 144, 3) := by decide +kernel
theorem xc95_62 : tt_cd 95 62 = (1, .aload_n 0, 1) := by decide +kernel
theorem xc95_63 : tt_cd 95 63 = (3, .getfield 141, 3) := by decide +kernel
theorem xc95_66 : tt_cd 95 66 = (1, .aload_n 0, 1) := by decide +kernel
theorem xc95_67 : tt_cd 95 67 = (3, .getfield 138, 3) := by decide +kernel
theorem xc95_70 : tt_cd 95 70 = (4, .bipush 12, 2) := by decide +kernel
theorem xc95_72 : tt_cd 95 72 = (2, .iadd, 1) := by decide +kernel
theorem xc95_73 : tt_cd 95 73 = (1, .iload 4, 2) := by decide +kernel
theorem xc95_75 : tt_cd 95 75 = (10, .invokestatic 144, 3) := by decide +kernel
theorem xc95_78 : tt_cd 95 78 = (1, .aload_n 0, 1) := by decide +kernel
theorem xc95_79 : tt_cd 95 79 = (3, .getfield 141, 3) := by decide +kernel
theorem xc95_82 : tt_cd 95 82 = (1, .aload_n 0, 1) := by decide +kernel
theorem xc95_83 : tt_cd 95 83 = (3, .getfield 138, 3) := by decide +kernel
theorem xc95_86 : tt_cd 95 86 = (4, .bipush 16, 2) := by decide +kernel
theorem xc95_88 : tt_cd 95 88 = (2, .iadd, 1) := by decide +kernel
theorem xc95_89 : tt_cd 95 89 = (1, .iload 5, 2) := by decide +kernel
theorem xc95_91 : tt_cd 95 91 = (10, .invokestatic 144, 3) := by decide +kernel
theorem xc95_94 : tt_cd 95 94 = (1, .aload_n 0, 1) := by decide +kernel
theorem xc95_95 : tt_cd 95 95 = (1, .aload_n 0, 1) := by decide +kernel
theorem xc95_96 : tt_cd 95 96 = (3, .getfield 138, 3) := by decide +kernel
theorem xc95_99 : tt_cd 95 99 = (4, .bipush 20, 2) := by decide +kernel
theorem xc95_101 : tt_cd 95 101 = (2, .iadd, 1) := by decide +kernel
theorem xc95_102 : tt_cd 95 102 = (6, .putfield 138, 3) := by decide +kernel
theorem xt0_17 : tt_fty 0 17 = .int := by decide +kernel
theorem xn0_17 : tt_ffin 0 17 = false := by decide +kernel
theorem xc95_105 : tt_cd 95 105 = (1, .aload_n 0, 1) := by decide +kernel
theorem xc95_106 : tt_cd 95 106 = (3, .getfield 138, 3) := by decide +kernel
theorem xc95_109 : tt_cd 95 109 = (9, .ireturn, 1) := by decide +kernel
theorem xc56_0 : tt_cd 56 0 = (1, .iload_n 1, 1) := by decide +kernel
theorem xc56_1 : tt_cd 56 1 = (5, .ifCond .lt 11, 3) := by decide +kernel
theorem xc56_12 : tt_cd 56 12 = (2, .iconst (-1), 1) := by decide +kernel
theorem xc56_13 : tt_cd 56 13 = (9, .ireturn, 1) := by decide +kernel
theorem xr56 : tt_mr 56 = 1 := by decide +kernel
theorem xc56_4 : tt_cd 56 4 = (1, .iload_n 1, 1) := by decide +kernel
theorem xc56_5 : tt_cd 56 5 = (1, .aload_n 0, 1) := by decide +kernel
theorem xc56_6 : tt_cd 56 6 = (3, .getfield 103, 3) := by decide +kernel
theorem xf56_103 : tt_fl 56 103 = (1, 1, 1) := by decide +kernel
theorem xc56_9 : tt_cd 56 9 = (5, .if_icmp .le 5, 3) := by decide +kernel
theorem xc56_14 : tt_cd 56 14 = (1, .aload_n 0, 1) := by decide +kernel
theorem xc56_15 : tt_cd 56 15 = (2, .dup, 1) := by decide +kernel
theorem xc56_16 : tt_cd 56 16 = (3, .getfield 103, 3) := by decide +kernel
theorem xc56_19 : tt_cd 56 19 = (1, .iload_n 1, 1) := by decide +kernel
theorem xc56_20 : tt_cd 56 20 = (2, .isub, 1) := by decide +kernel
theorem xc56_21 : tt_cd 56 21 = (6, .putfield 103, 3) := by decide +kernel
theorem xc56_24 : tt_cd 56 24 = (1, .aload_n 0, 1) := by decide +kernel
theorem xc56_25 : tt_cd 56 25 = (3, .getfield 103, 3) := by decide +kernel
theorem xc56_28 : tt_cd 56 28 = (9, .ireturn, 1) := by decide +kernel
theorem xc97_0 : tt_cd 97 0 = (1, .aload_n 0, 1) := by decide +kernel
theorem xc97_1 : tt_cd 97 1 = (2, .iconst 0, 1) := by decide +kernel
theorem xc97_2 : tt_cd 97 2 = (6, .putfield 1, 3) := by decide +kernel
theorem xf97_1 : tt_fl 97 1 = (1, 0, 0) := by decide +kernel
theorem xc97_5 : tt_cd 97 5 = (1, .iload_n 1, 1) := by decide +kernel
theorem xc97_6 : tt_cd 97 6 = (2, .i2l, 1) := by decide +kernel
theorem xc97_7 : tt_cd 97 7 = (2, .lconst 0, 1) := by decide +kernel
theorem xc97_8 : tt_cd 97 8 = (1, .aload_n 0, 1) := by decide +kernel
theorem xc97_9 : tt_cd 97 9 = (3, .getfield 138, 3) := by decide +kernel
theorem xf97_138 : tt_fl 97 138 = (1, 0, 17) := by decide +kernel
theorem xc97_12 : tt_cd 97 12 = (2, .i2l, 1) := by decide +kernel
theorem xc97_13 : tt_cd 97 13 = (10, .invokestatic 147, 3) := by decide +kernel
theorem xm97_147 : tt_ml 97 147 = (1, 98, 3) := by decide +kernel
theorem xl98 : tt_mL 98 = 6 := by decide +kernel
theorem xc97_16 : tt_cd 97 16 = (5, .ifCond .ne 5, 3) := by decide +kernel
theorem xc97_19 : tt_cd 97 19 = (2, .iconst (-1), 1) := by decide +kernel
theorem xc97_20 : tt_cd 97 20 = (9, .ireturn, 1) := by decide +kernel
theorem xr97 : tt_mr 97 = 1 := by decide +kernel
theorem xc97_21 : tt_cd 97 21 = (1, .aload_n 0, 1) := by decide +kernel
theorem xc97_22 : tt_cd 97 22 = (1, .aload_n 0, 1) := by decide +kernel
theorem xc97_23 : tt_cd 97 23 = (3, .getfield 138, 3) := by decide +kernel
theorem xc97_26 : tt_cd 97 26 = (1, .iload_n 1, 1) := by decide +kernel
theorem xc97_27 : tt_cd 97 27 = (2, .isub, 1) := by decide +kernel
theorem xc97_28 : tt_cd 97 28 = (6, .putfield 138, 3) := by decide +kernel
theorem xc97_31 : tt_cd 97 31 = (1, .aload_n 0, 1) := by decide +kernel
theorem xc97_32 : tt_cd 97 32 = (3, .getfield 138, 3) := by decide +kernel
theorem xc97_35 : tt_cd 97 35 = (9, .ireturn, 1) := by decide +kernel
section FC
variable {n : Nat} {pl : Nat → Nat} {w0 w : mv_T 10}
theorem fc_sub {x y : Nat} (h : y ≤ x) (hx : x < 4294967296) : mo_sub x y = x - y := by
  unfold mo_sub
  omega
def jC : List Nat := [0, 1]
def jM : List Nat := [0, 16, 17]
theorem wh_one {c : mv_C} {w' : mv_T 10} (h : wh 1 pl w w' [c]) : w' = mv_set 10 w (pl 0) c := by
  refine mv_ext 10 _ _ (fun i hi => ?_)
  by_cases e : i = pl 0
  · subst e
    rw [mv_gs hi]
    exact h.1 0 c rfl
  · rw [mv_gn (h.2.2.1 0 (by decide)) hi e]
    exact h.2.2.2.2 i hi (fun k hk => by
      have : k = 0 := by omega
      subst this
      exact Ne.symm e)
theorem wh_1 {p : Nat} {c : mv_C} (hp : p < 1024) (h : mv_get 10 w p = c) : wh 1 (fun _ => p) w w [c] := by
  refine ⟨fun i x hx => ?_, fun i j hi hj e => absurd (by omega) e, fun _ _ => hp, Nat.le_refl 1, fun _ _ _ => rfl⟩
  match i, hx with
  | 0, hx => cases hx; exact h
  | i + 1, hx => exact absurd hx (by simp)
def pw_4 (T at_ v : Nat) : Nat := mv_wr 32 (mv_wr 32 (mv_wr 32 (mv_wr 32 T (at_ + 0) (mn_b (mn_b (mo_ushr v 24)))) (at_ + 1) (mn_b (mn_b (mo_ushr v 16)))) (at_ + 2) (mn_b (mn_b (mo_ushr v 8)))) (at_ + 3) (mn_b (mn_b (mo_ushr v 0)))
theorem pw_run1 {q T at_ v : Nat} (hw : wh 1 pl w0 w [(1, 1, q, T)]) (hq : q ≤ 2147483647) (ha : at_ + 4 ≤ q) (hv : v < 4294967296) : sy_D 96 n 0 0 [(2, pl 0, 0), (0, at_, 0), (0, v, 0)] w (fun ret w' => ret = [] ∧ wh 1 pl w0 w' [(1, 1, q, pw_4 T at_ v)]) := by
  refine sy_Dof (us := [(255, 0, 0)]) (sy_oks_cons (sy_ok2 (wh_lt hw 0 (by decide))) (sy_oks_cons (sy_ok0 (by omega)) (sy_oks_cons (sy_ok0 hv) sy_oks_nil))) rfl rfl ?_
  show sy_F 96 n 0 0 0 [(2, pl 0, 0), (0, at_, 0), (0, v, 0), (255, 0, 0)] [] w _
  refine sy_Fs (sy_iconst (v := 0) xc96_0 (by decide) sy_refl) ?_
  refine sy_Fs (sx_istn (j := 3) (ls' := [(2, pl 0, 0), (0, at_, 0), (0, v, 0), (0, 0, 0)]) xc96_1 rfl rfl (sy_ok0 (by first | decide | assumption | omega | exact mo_rd_lt _ _ | exact mo_add_lt _ _ | exact mo_sub_lt _ _ | exact mo_mul_lt _ _ | exact mo_shl_lt _ _ | exact mo_ushr_lt _ _ | exact mo_or_lt (by decide) (mo_and_lt (mo_rd_lt _ _)) | exact mo_or_lt (mo_shl_lt _ _) (mo_and_lt (mo_rd_lt _ _)))) (by rw [xl96]; rfl) rfl rfl) ?_
  refine sy_Fs (sy_ildn xc96_2 rfl rfl sy_refl) ?_
  refine sy_Fs (sy_iconst (v := 4) xc96_3 (by decide) sy_refl) ?_
  refine sy_Fs (sy_ge_f xc96_4 (by decide) (by decide) (by decide) sy_refl) ?_
  refine sy_Fs (sy_aldn xc96_7 rfl rfl sy_refl) ?_
  refine sy_Fs (sy_ildn xc96_8 rfl rfl sy_refl) ?_
  refine sy_Fs (sy_ildn xc96_9 rfl rfl sy_refl) ?_
  refine sy_Fs (sx_iadd (z := (at_ + 0)) xc96_10 (Nat.mod_eq_of_lt (by omega))) ?_
  refine sy_Fs (sy_ildn xc96_11 rfl rfl sy_refl) ?_
  refine sy_Fs (sy_bipush (v := 24) xc96_12 (by decide) (by decide) sy_refl) ?_
  refine sy_Fs (sy_bipush (v := 8) xc96_14 (by decide) (by decide) sy_refl) ?_
  refine sy_Fs (sy_ildn xc96_16 rfl rfl sy_refl) ?_
  refine sy_Fs (sx_imul (z := 0) xc96_17 (by decide)) ?_
  refine sy_Fs (sx_isub (z := 24) xc96_18 (by decide)) ?_
  refine sy_Fs (sx_iushr (z := (mo_ushr v 24)) xc96_19 rfl) ?_
  refine sy_Fs (sx_i2b (z := (mn_b (mo_ushr v 24))) xc96_20 rfl) ?_
  refine sy_Fw (i := 0) (x := (1, 1, q, (mv_wr 32 T (at_ + 0) (mn_b (mn_b (mo_ushr v 24)))))) hw (by decide) (sy_bas (i := (at_ + 0)) xc96_21 (wh_at hw 0 rfl) rfl (by omega) hq rfl sy_refl) ?_
  intro w hw
  simp only [List.set_cons_zero, List.set_cons_succ] at hw
  refine sy_Fs (sx_iinc (c := 1) (z := 1) (ls' := [(2, pl 0, 0), (0, at_, 0), (0, v, 0), (0, 1, 0)]) xc96_22 rfl (by decide) (by rw [xl96]; rfl) rfl (by decide) rfl) ?_
  refine sy_Fs (sy_goto (pc' := 2) xc96_25 (by decide) (by decide) sy_refl) ?_
  refine sy_Fs (sy_ildn xc96_2 rfl rfl sy_refl) ?_
  refine sy_Fs (sy_iconst (v := 4) xc96_3 (by decide) sy_refl) ?_
  refine sy_Fs (sy_ge_f xc96_4 (by decide) (by decide) (by decide) sy_refl) ?_
  refine sy_Fs (sy_aldn xc96_7 rfl rfl sy_refl) ?_
  refine sy_Fs (sy_ildn xc96_8 rfl rfl sy_refl) ?_
  refine sy_Fs (sy_ildn xc96_9 rfl rfl sy_refl) ?_
  refine sy_Fs (sx_iadd (z := (at_ + 1)) xc96_10 (Nat.mod_eq_of_lt (by omega))) ?_
  refine sy_Fs (sy_ildn xc96_11 rfl rfl sy_refl) ?_
  refine sy_Fs (sy_bipush (v := 24) xc96_12 (by decide) (by decide) sy_refl) ?_
  refine sy_Fs (sy_bipush (v := 8) xc96_14 (by decide) (by decide) sy_refl) ?_
  refine sy_Fs (sy_ildn xc96_16 rfl rfl sy_refl) ?_
  refine sy_Fs (sx_imul (z := 8) xc96_17 (by decide)) ?_
  refine sy_Fs (sx_isub (z := 16) xc96_18 (by decide)) ?_
  refine sy_Fs (sx_iushr (z := (mo_ushr v 16)) xc96_19 rfl) ?_
  refine sy_Fs (sx_i2b (z := (mn_b (mo_ushr v 16))) xc96_20 rfl) ?_
  refine sy_Fw (i := 0) (x := (1, 1, q, (mv_wr 32 (mv_wr 32 T (at_ + 0) (mn_b (mn_b (mo_ushr v 24)))) (at_ + 1) (mn_b (mn_b (mo_ushr v 16)))))) hw (by decide) (sy_bas (i := (at_ + 1)) xc96_21 (wh_at hw 0 rfl) rfl (by omega) hq rfl sy_refl) ?_
  intro w hw
  simp only [List.set_cons_zero, List.set_cons_succ] at hw
  refine sy_Fs (sx_iinc (c := 1) (z := 2) (ls' := [(2, pl 0, 0), (0, at_, 0), (0, v, 0), (0, 2, 0)]) xc96_22 rfl (by decide) (by rw [xl96]; rfl) rfl (by decide) rfl) ?_
  refine sy_Fs (sy_goto (pc' := 2) xc96_25 (by decide) (by decide) sy_refl) ?_
  refine sy_Fs (sy_ildn xc96_2 rfl rfl sy_refl) ?_
  refine sy_Fs (sy_iconst (v := 4) xc96_3 (by decide) sy_refl) ?_
  refine sy_Fs (sy_ge_f xc96_4 (by decide) (by decide) (by decide) sy_refl) ?_
  refine sy_Fs (sy_aldn xc96_7 rfl rfl sy_refl) ?_
  refine sy_Fs (sy_ildn xc96_8 rfl rfl sy_refl) ?_
  refine sy_Fs (sy_ildn xc96_9 rfl rfl sy_refl) ?_
  refine sy_Fs (sx_iadd (z := (at_ + 2)) xc96_10 (Nat.mod_eq_of_lt (by omega))) ?_
  refine sy_Fs (sy_ildn xc96_11 rfl rfl sy_refl) ?_
  refine sy_Fs (sy_bipush (v := 24) xc96_12 (by decide) (by decide) sy_refl) ?_
  refine sy_Fs (sy_bipush (v := 8) xc96_14 (by decide) (by decide) sy_refl) ?_
  refine sy_Fs (sy_ildn xc96_16 rfl rfl sy_refl) ?_
  refine sy_Fs (sx_imul (z := 16) xc96_17 (by decide)) ?_
  refine sy_Fs (sx_isub (z := 8) xc96_18 (by decide)) ?_
  refine sy_Fs (sx_iushr (z := (mo_ushr v 8)) xc96_19 rfl) ?_
  refine sy_Fs (sx_i2b (z := (mn_b (mo_ushr v 8))) xc96_20 rfl) ?_
  refine sy_Fw (i := 0) (x := (1, 1, q, (mv_wr 32 (mv_wr 32 (mv_wr 32 T (at_ + 0) (mn_b (mn_b (mo_ushr v 24)))) (at_ + 1) (mn_b (mn_b (mo_ushr v 16)))) (at_ + 2) (mn_b (mn_b (mo_ushr v 8)))))) hw (by decide) (sy_bas (i := (at_ + 2)) xc96_21 (wh_at hw 0 rfl) rfl (by omega) hq rfl sy_refl) ?_
  intro w hw
  simp only [List.set_cons_zero, List.set_cons_succ] at hw
  refine sy_Fs (sx_iinc (c := 1) (z := 3) (ls' := [(2, pl 0, 0), (0, at_, 0), (0, v, 0), (0, 3, 0)]) xc96_22 rfl (by decide) (by rw [xl96]; rfl) rfl (by decide) rfl) ?_
  refine sy_Fs (sy_goto (pc' := 2) xc96_25 (by decide) (by decide) sy_refl) ?_
  refine sy_Fs (sy_ildn xc96_2 rfl rfl sy_refl) ?_
  refine sy_Fs (sy_iconst (v := 4) xc96_3 (by decide) sy_refl) ?_
  refine sy_Fs (sy_ge_f xc96_4 (by decide) (by decide) (by decide) sy_refl) ?_
  refine sy_Fs (sy_aldn xc96_7 rfl rfl sy_refl) ?_
  refine sy_Fs (sy_ildn xc96_8 rfl rfl sy_refl) ?_
  refine sy_Fs (sy_ildn xc96_9 rfl rfl sy_refl) ?_
  refine sy_Fs (sx_iadd (z := (at_ + 3)) xc96_10 (Nat.mod_eq_of_lt (by omega))) ?_
  refine sy_Fs (sy_ildn xc96_11 rfl rfl sy_refl) ?_
  refine sy_Fs (sy_bipush (v := 24) xc96_12 (by decide) (by decide) sy_refl) ?_
  refine sy_Fs (sy_bipush (v := 8) xc96_14 (by decide) (by decide) sy_refl) ?_
  refine sy_Fs (sy_ildn xc96_16 rfl rfl sy_refl) ?_
  refine sy_Fs (sx_imul (z := 24) xc96_17 (by decide)) ?_
  refine sy_Fs (sx_isub (z := 0) xc96_18 (by decide)) ?_
  refine sy_Fs (sx_iushr (z := (mo_ushr v 0)) xc96_19 rfl) ?_
  refine sy_Fs (sx_i2b (z := (mn_b (mo_ushr v 0))) xc96_20 rfl) ?_
  refine sy_Fw (i := 0) (x := (1, 1, q, (mv_wr 32 (mv_wr 32 (mv_wr 32 (mv_wr 32 T (at_ + 0) (mn_b (mn_b (mo_ushr v 24)))) (at_ + 1) (mn_b (mn_b (mo_ushr v 16)))) (at_ + 2) (mn_b (mn_b (mo_ushr v 8)))) (at_ + 3) (mn_b (mn_b (mo_ushr v 0)))))) hw (by decide) (sy_bas (i := (at_ + 3)) xc96_21 (wh_at hw 0 rfl) rfl (by omega) hq rfl sy_refl) ?_
  intro w hw
  simp only [List.set_cons_zero, List.set_cons_succ] at hw
  refine sy_Fs (sx_iinc (c := 1) (z := 4) (ls' := [(2, pl 0, 0), (0, at_, 0), (0, v, 0), (0, 4, 0)]) xc96_22 rfl (by decide) (by rw [xl96]; rfl) rfl (by decide) rfl) ?_
  refine sy_Fs (sy_goto (pc' := 2) xc96_25 (by decide) (by decide) sy_refl) ?_
  refine sy_Fs (sy_ildn xc96_2 rfl rfl sy_refl) ?_
  refine sy_Fs (sy_iconst (v := 4) xc96_3 (by decide) sy_refl) ?_
  refine sy_Fs (sy_ge_t (pc' := 28) xc96_4 (by decide) (by decide) (by decide) (by decide) sy_refl) ?_
  exact sy_Fv xc96_28 xr96 ⟨rfl, hw⟩
theorem pw_run {p q T at_ v : Nat} (hp : p < 1024) (hT : mv_get 10 w p = (1, 1, q, T)) (hq : q ≤ 2147483647) (ha : at_ + 4 ≤ q) (hv : v < 4294967296) : sy_C 96 n 0 0 [(2, p, 0), (0, at_, 0), (0, v, 0)] w [] (mv_set 10 w p (1, 1, q, pw_4 T at_ v)) := by
  obtain ⟨ret, w', ⟨rfl, h⟩, hC⟩ := pw_run1 (n := n) (wh_1 hp hT) hq ha hv
  rw [← wh_one h]
  exact hC
variable {X0 Tp t th : Nat}
theorem cf_full (hw : wh 2 pl w0 w [(0, 1, 13, X0), (1, 1, 200, Tp)]) (hX0 : fh X0 jC [(2, pl 1, 0), (0, t, 0)]) {a b c d e : Nat} (ha : a < 4294967296) (hb : b < 4294967296) (hc : c < 4294967296) (hd : d < 4294967296) (he : e < 4294967296) (ht : 180 < t) (ht2 : t ≤ 200) : sy_D 55 n 0 0 [(2, pl 0, 0), (0, a, 0), (0, b, 0), (0, c, 0), (0, d, 0), (0, e, 0)] w (fun ret w' => ret = [(0, 4294967293, 0)] ∧ ∃ Y0, wh 2 pl w0 w' [(0, 1, 13, Y0), (1, 1, 200, Tp)] ∧ fh Y0 jC [(2, pl 1, 0), (0, t, 0)]) := by
  refine sy_Dof (us := []) (sy_oks_cons (sy_ok2 (wh_lt hw 0 (by first | decide | assumption))) (sy_oks_cons (sy_ok0 (by first | decide | assumption | omega | exact mo_rd_lt _ _ | exact mo_add_lt _ _ | exact mo_sub_lt _ _ | exact mo_mul_lt _ _ | exact mo_shl_lt _ _ | exact mo_ushr_lt _ _ | exact mo_or_lt (by decide) (mo_and_lt (mo_rd_lt _ _)) | exact mo_or_lt (mo_shl_lt _ _) (mo_and_lt (mo_rd_lt _ _)))) (sy_oks_cons (sy_ok0 (by first | decide | assumption | omega | exact mo_rd_lt _ _ | exact mo_add_lt _ _ | exact mo_sub_lt _ _ | exact mo_mul_lt _ _ | exact mo_shl_lt _ _ | exact mo_ushr_lt _ _ | exact mo_or_lt (by decide) (mo_and_lt (mo_rd_lt _ _)) | exact mo_or_lt (mo_shl_lt _ _) (mo_and_lt (mo_rd_lt _ _)))) (sy_oks_cons (sy_ok0 (by first | decide | assumption | omega | exact mo_rd_lt _ _ | exact mo_add_lt _ _ | exact mo_sub_lt _ _ | exact mo_mul_lt _ _ | exact mo_shl_lt _ _ | exact mo_ushr_lt _ _ | exact mo_or_lt (by decide) (mo_and_lt (mo_rd_lt _ _)) | exact mo_or_lt (mo_shl_lt _ _) (mo_and_lt (mo_rd_lt _ _)))) (sy_oks_cons (sy_ok0 (by first | decide | assumption | omega | exact mo_rd_lt _ _ | exact mo_add_lt _ _ | exact mo_sub_lt _ _ | exact mo_mul_lt _ _ | exact mo_shl_lt _ _ | exact mo_ushr_lt _ _ | exact mo_or_lt (by decide) (mo_and_lt (mo_rd_lt _ _)) | exact mo_or_lt (mo_shl_lt _ _) (mo_and_lt (mo_rd_lt _ _)))) (sy_oks_cons (sy_ok0 (by first | decide | assumption | omega | exact mo_rd_lt _ _ | exact mo_add_lt _ _ | exact mo_sub_lt _ _ | exact mo_mul_lt _ _ | exact mo_shl_lt _ _ | exact mo_ushr_lt _ _ | exact mo_or_lt (by decide) (mo_and_lt (mo_rd_lt _ _)) | exact mo_or_lt (mo_shl_lt _ _) (mo_and_lt (mo_rd_lt _ _)))) sy_oks_nil)))))) rfl rfl ?_
  show sy_F 55 n 0 0 0 [(2, pl 0, 0), (0, a, 0), (0, b, 0), (0, c, 0), (0, d, 0), (0, e, 0)] [] w _
  refine sy_Fs (sy_aldn xc55_0 rfl rfl sy_refl) ?_
  refine sy_Fs (sy_gf xc55_1 xf55_103 rfl (wh_at hw 0 rfl) rfl (fh_at hX0 1 rfl rfl) sy_refl) ?_
  refine sy_Fs (sy_bipush (v := 20) xc55_4 (by decide) (by decide) sy_refl) ?_
  refine sy_Fs (sx_iadd (z := (t + 20)) xc55_6 (Nat.mod_eq_of_lt (by omega))) ?_
  refine sy_Fs (sy_sipush (v := 200) xc55_7 (by decide) (by decide) sy_refl) ?_
  refine sy_Fs (sy_icmple_f xc55_10 (by decide) (by omega) (by omega) sy_refl) ?_
  refine sy_Fs (sy_bipush (v := 4294967293) xc55_13 (by decide) (by decide) sy_refl) ?_
  exact sy_Fi xc55_15 xr55 rfl ⟨rfl, X0, hw, hX0⟩
theorem cf_feed (hw : wh 2 pl w0 w [(0, 1, 13, X0), (1, 1, 200, Tp)]) (hX0 : fh X0 jC [(2, pl 1, 0), (0, t, 0)]) {a b c d e : Nat} (ha : a < 4294967296) (hb : b < 4294967296) (hc : c < 4294967296) (hd : d < 4294967296) (he : e < 4294967296) (ht : t ≤ 180) : sy_D 55 n 1 22 [(2, pl 0, 0), (0, a, 0), (0, b, 0), (0, c, 0), (0, d, 0), (0, e, 0)] w (fun ret w' => ret = [(0, t + 20, 0)] ∧ ∃ Y0, wh 2 pl w0 w' [(0, 1, 13, Y0), (1, 1, 200, (su_4 (su_4 (su_4 (su_4 (su_4 Tp t a) (t + 4) b) (t + 8) c) (t + 12) d) (t + 16) e))] ∧ fh Y0 jC [(2, pl 1, 0), (0, (t + 20), 0)]) := by
  refine sy_Dof (us := []) (sy_oks_cons (sy_ok2 (wh_lt hw 0 (by first | decide | assumption))) (sy_oks_cons (sy_ok0 (by first | decide | assumption | omega | exact mo_rd_lt _ _ | exact mo_add_lt _ _ | exact mo_sub_lt _ _ | exact mo_mul_lt _ _ | exact mo_shl_lt _ _ | exact mo_ushr_lt _ _ | exact mo_or_lt (by decide) (mo_and_lt (mo_rd_lt _ _)) | exact mo_or_lt (mo_shl_lt _ _) (mo_and_lt (mo_rd_lt _ _)))) (sy_oks_cons (sy_ok0 (by first | decide | assumption | omega | exact mo_rd_lt _ _ | exact mo_add_lt _ _ | exact mo_sub_lt _ _ | exact mo_mul_lt _ _ | exact mo_shl_lt _ _ | exact mo_ushr_lt _ _ | exact mo_or_lt (by decide) (mo_and_lt (mo_rd_lt _ _)) | exact mo_or_lt (mo_shl_lt _ _) (mo_and_lt (mo_rd_lt _ _)))) (sy_oks_cons (sy_ok0 (by first | decide | assumption | omega | exact mo_rd_lt _ _ | exact mo_add_lt _ _ | exact mo_sub_lt _ _ | exact mo_mul_lt _ _ | exact mo_shl_lt _ _ | exact mo_ushr_lt _ _ | exact mo_or_lt (by decide) (mo_and_lt (mo_rd_lt _ _)) | exact mo_or_lt (mo_shl_lt _ _) (mo_and_lt (mo_rd_lt _ _)))) (sy_oks_cons (sy_ok0 (by first | decide | assumption | omega | exact mo_rd_lt _ _ | exact mo_add_lt _ _ | exact mo_sub_lt _ _ | exact mo_mul_lt _ _ | exact mo_shl_lt _ _ | exact mo_ushr_lt _ _ | exact mo_or_lt (by decide) (mo_and_lt (mo_rd_lt _ _)) | exact mo_or_lt (mo_shl_lt _ _) (mo_and_lt (mo_rd_lt _ _)))) (sy_oks_cons (sy_ok0 (by first | decide | assumption | omega | exact mo_rd_lt _ _ | exact mo_add_lt _ _ | exact mo_sub_lt _ _ | exact mo_mul_lt _ _ | exact mo_shl_lt _ _ | exact mo_ushr_lt _ _ | exact mo_or_lt (by decide) (mo_and_lt (mo_rd_lt _ _)) | exact mo_or_lt (mo_shl_lt _ _) (mo_and_lt (mo_rd_lt _ _)))) sy_oks_nil)))))) rfl rfl ?_
  show sy_F 55 n 1 22 0 [(2, pl 0, 0), (0, a, 0), (0, b, 0), (0, c, 0), (0, d, 0), (0, e, 0)] [] w _
  refine sy_Fs (sy_aldn xc55_0 rfl rfl sy_refl) ?_
  refine sy_Fs (sy_gf xc55_1 xf55_103 rfl (wh_at hw 0 rfl) rfl (fh_at hX0 1 rfl rfl) sy_refl) ?_
  refine sy_Fs (sy_bipush (v := 20) xc55_4 (by decide) (by decide) sy_refl) ?_
  refine sy_Fs (sx_iadd (z := (t + 20)) xc55_6 (Nat.mod_eq_of_lt (by omega))) ?_
  refine sy_Fs (sy_sipush (v := 200) xc55_7 (by decide) (by decide) sy_refl) ?_
  refine sy_Fs (sy_icmple_t (pc' := 16) xc55_10 (by decide) (by omega) (by decide) (by decide) sy_refl) ?_
  refine sy_Fs (sy_ildn xc55_16 rfl rfl sy_refl) ?_
  refine sy_Fs (sy_aldn xc55_17 rfl rfl sy_refl) ?_
  refine sy_Fs (sy_gf xc55_18 xf55_9 rfl (wh_at hw 0 rfl) rfl (fh_at hX0 0 rfl rfl) sy_refl) ?_
  refine sy_Fs (sy_aldn xc55_21 rfl rfl sy_refl) ?_
  refine sy_Fs (sy_gf xc55_22 xf55_103 rfl (wh_at hw 0 rfl) rfl (fh_at hX0 1 rfl rfl) sy_refl) ?_
  refine sy_Fw (i := 1) (x := (1, 1, 200, (su_4 Tp t a))) hw (by decide) (sy_callG (kd := 1) (as := [(0, a, 0), (2, pl 1, 0), (0, t, 0)]) (S0 := []) (ret := []) xc55_25 (sy_calS (as := [(0, a, 0), (2, pl 1, 0), (0, t, 0)]) (S0 := []) xm55_107 rfl rfl) rfl rfl rfl rfl (sy_oka (sy_oks_cons (sy_ok0 (by first | decide | assumption | omega | exact mo_rd_lt _ _ | exact mo_add_lt _ _ | exact mo_sub_lt _ _ | exact mo_mul_lt _ _ | exact mo_shl_lt _ _ | exact mo_ushr_lt _ _ | exact mo_or_lt (by decide) (mo_and_lt (mo_rd_lt _ _)) | exact mo_or_lt (mo_shl_lt _ _) (mo_and_lt (mo_rd_lt _ _)))) (sy_oks_cons (sy_ok2 (wh_lt hw 1 (by first | decide | assumption))) (sy_oks_cons (sy_ok0 (by first | decide | assumption | omega | exact mo_rd_lt _ _ | exact mo_add_lt _ _ | exact mo_sub_lt _ _ | exact mo_mul_lt _ _ | exact mo_shl_lt _ _ | exact mo_ushr_lt _ _ | exact mo_or_lt (by decide) (mo_and_lt (mo_rd_lt _ _)) | exact mo_or_lt (mo_shl_lt _ _) (mo_and_lt (mo_rd_lt _ _)))) sy_oks_nil))) rfl xl11) (su_run (wh_lt hw 1 (by first | decide | assumption)) (wh_at hw 1 rfl) (by decide) (by first | decide | assumption | omega) (by first | decide | assumption | omega | exact mo_rd_lt _ _ | exact mo_add_lt _ _ | exact mo_sub_lt _ _ | exact mo_mul_lt _ _ | exact mo_shl_lt _ _ | exact mo_ushr_lt _ _ | exact mo_or_lt (by decide) (mo_and_lt (mo_rd_lt _ _)) | exact mo_or_lt (mo_shl_lt _ _) (mo_and_lt (mo_rd_lt _ _)))) (by decide) (by rw [xl11]; decide) sy_refl) ?_
  intro w hw
  simp only [List.set_cons_zero, List.set_cons_succ] at hw
  refine sy_Fs (sy_ildn xc55_28 rfl rfl sy_refl) ?_
  refine sy_Fs (sy_aldn xc55_29 rfl rfl sy_refl) ?_
  refine sy_Fs (sy_gf xc55_30 xf55_9 rfl (wh_at hw 0 rfl) rfl (fh_at hX0 0 rfl rfl) sy_refl) ?_
  refine sy_Fs (sy_aldn xc55_33 rfl rfl sy_refl) ?_
  refine sy_Fs (sy_gf xc55_34 xf55_103 rfl (wh_at hw 0 rfl) rfl (fh_at hX0 1 rfl rfl) sy_refl) ?_
  refine sy_Fs (sy_iconst (v := 4) xc55_37 (by decide) sy_refl) ?_
  refine sy_Fs (sx_iadd (z := (t + 4)) xc55_38 (Nat.mod_eq_of_lt (by omega))) ?_
  refine sy_Fw (i := 1) (x := (1, 1, 200, (su_4 (su_4 Tp t a) (t + 4) b))) hw (by decide) (sy_callG (kd := 1) (as := [(0, b, 0), (2, pl 1, 0), (0, (t + 4), 0)]) (S0 := []) (ret := []) xc55_39 (sy_calS (as := [(0, b, 0), (2, pl 1, 0), (0, (t + 4), 0)]) (S0 := []) xm55_107 rfl rfl) rfl rfl rfl rfl (sy_oka (sy_oks_cons (sy_ok0 (by first | decide | assumption | omega | exact mo_rd_lt _ _ | exact mo_add_lt _ _ | exact mo_sub_lt _ _ | exact mo_mul_lt _ _ | exact mo_shl_lt _ _ | exact mo_ushr_lt _ _ | exact mo_or_lt (by decide) (mo_and_lt (mo_rd_lt _ _)) | exact mo_or_lt (mo_shl_lt _ _) (mo_and_lt (mo_rd_lt _ _)))) (sy_oks_cons (sy_ok2 (wh_lt hw 1 (by first | decide | assumption))) (sy_oks_cons (sy_ok0 (by first | decide | assumption | omega | exact mo_rd_lt _ _ | exact mo_add_lt _ _ | exact mo_sub_lt _ _ | exact mo_mul_lt _ _ | exact mo_shl_lt _ _ | exact mo_ushr_lt _ _ | exact mo_or_lt (by decide) (mo_and_lt (mo_rd_lt _ _)) | exact mo_or_lt (mo_shl_lt _ _) (mo_and_lt (mo_rd_lt _ _)))) sy_oks_nil))) rfl xl11) (su_run (wh_lt hw 1 (by first | decide | assumption)) (wh_at hw 1 rfl) (by decide) (by first | decide | assumption | omega) (by first | decide | assumption | omega | exact mo_rd_lt _ _ | exact mo_add_lt _ _ | exact mo_sub_lt _ _ | exact mo_mul_lt _ _ | exact mo_shl_lt _ _ | exact mo_ushr_lt _ _ | exact mo_or_lt (by decide) (mo_and_lt (mo_rd_lt _ _)) | exact mo_or_lt (mo_shl_lt _ _) (mo_and_lt (mo_rd_lt _ _)))) (by decide) (by rw [xl11]; decide) sy_refl) ?_
  intro w hw
  simp only [List.set_cons_zero, List.set_cons_succ] at hw
  refine sy_Fs (sy_ildn xc55_42 rfl rfl sy_refl) ?_
  refine sy_Fs (sy_aldn xc55_43 rfl rfl sy_refl) ?_
  refine sy_Fs (sy_gf xc55_44 xf55_9 rfl (wh_at hw 0 rfl) rfl (fh_at hX0 0 rfl rfl) sy_refl) ?_
  refine sy_Fs (sy_aldn xc55_47 rfl rfl sy_refl) ?_
  refine sy_Fs (sy_gf xc55_48 xf55_103 rfl (wh_at hw 0 rfl) rfl (fh_at hX0 1 rfl rfl) sy_refl) ?_
  refine sy_Fs (sy_bipush (v := 8) xc55_51 (by decide) (by decide) sy_refl) ?_
  refine sy_Fs (sx_iadd (z := (t + 8)) xc55_53 (Nat.mod_eq_of_lt (by omega))) ?_
  refine sy_Fw (i := 1) (x := (1, 1, 200, (su_4 (su_4 (su_4 Tp t a) (t + 4) b) (t + 8) c))) hw (by decide) (sy_callG (kd := 1) (as := [(0, c, 0), (2, pl 1, 0), (0, (t + 8), 0)]) (S0 := []) (ret := []) xc55_54 (sy_calS (as := [(0, c, 0), (2, pl 1, 0), (0, (t + 8), 0)]) (S0 := []) xm55_107 rfl rfl) rfl rfl rfl rfl (sy_oka (sy_oks_cons (sy_ok0 (by first | decide | assumption | omega | exact mo_rd_lt _ _ | exact mo_add_lt _ _ | exact mo_sub_lt _ _ | exact mo_mul_lt _ _ | exact mo_shl_lt _ _ | exact mo_ushr_lt _ _ | exact mo_or_lt (by decide) (mo_and_lt (mo_rd_lt _ _)) | exact mo_or_lt (mo_shl_lt _ _) (mo_and_lt (mo_rd_lt _ _)))) (sy_oks_cons (sy_ok2 (wh_lt hw 1 (by first | decide | assumption))) (sy_oks_cons (sy_ok0 (by first | decide | assumption | omega | exact mo_rd_lt _ _ | exact mo_add_lt _ _ | exact mo_sub_lt _ _ | exact mo_mul_lt _ _ | exact mo_shl_lt _ _ | exact mo_ushr_lt _ _ | exact mo_or_lt (by decide) (mo_and_lt (mo_rd_lt _ _)) | exact mo_or_lt (mo_shl_lt _ _) (mo_and_lt (mo_rd_lt _ _)))) sy_oks_nil))) rfl xl11) (su_run (wh_lt hw 1 (by first | decide | assumption)) (wh_at hw 1 rfl) (by decide) (by first | decide | assumption | omega) (by first | decide | assumption | omega | exact mo_rd_lt _ _ | exact mo_add_lt _ _ | exact mo_sub_lt _ _ | exact mo_mul_lt _ _ | exact mo_shl_lt _ _ | exact mo_ushr_lt _ _ | exact mo_or_lt (by decide) (mo_and_lt (mo_rd_lt _ _)) | exact mo_or_lt (mo_shl_lt _ _) (mo_and_lt (mo_rd_lt _ _)))) (by decide) (by rw [xl11]; decide) sy_refl) ?_
  intro w hw
  simp only [List.set_cons_zero, List.set_cons_succ] at hw
  refine sy_Fs (sy_ild xc55_57 rfl rfl sy_refl) ?_
  refine sy_Fs (sy_aldn xc55_59 rfl rfl sy_refl) ?_
  refine sy_Fs (sy_gf xc55_60 xf55_9 rfl (wh_at hw 0 rfl) rfl (fh_at hX0 0 rfl rfl) sy_refl) ?_
  refine sy_Fs (sy_aldn xc55_63 rfl rfl sy_refl) ?_
  refine sy_Fs (sy_gf xc55_64 xf55_103 rfl (wh_at hw 0 rfl) rfl (fh_at hX0 1 rfl rfl) sy_refl) ?_
  refine sy_Fs (sy_bipush (v := 12) xc55_67 (by decide) (by decide) sy_refl) ?_
  refine sy_Fs (sx_iadd (z := (t + 12)) xc55_69 (Nat.mod_eq_of_lt (by omega))) ?_
  refine sy_Fw (i := 1) (x := (1, 1, 200, (su_4 (su_4 (su_4 (su_4 Tp t a) (t + 4) b) (t + 8) c) (t + 12) d))) hw (by decide) (sy_callG (kd := 1) (as := [(0, d, 0), (2, pl 1, 0), (0, (t + 12), 0)]) (S0 := []) (ret := []) xc55_70 (sy_calS (as := [(0, d, 0), (2, pl 1, 0), (0, (t + 12), 0)]) (S0 := []) xm55_107 rfl rfl) rfl rfl rfl rfl (sy_oka (sy_oks_cons (sy_ok0 (by first | decide | assumption | omega | exact mo_rd_lt _ _ | exact mo_add_lt _ _ | exact mo_sub_lt _ _ | exact mo_mul_lt _ _ | exact mo_shl_lt _ _ | exact mo_ushr_lt _ _ | exact mo_or_lt (by decide) (mo_and_lt (mo_rd_lt _ _)) | exact mo_or_lt (mo_shl_lt _ _) (mo_and_lt (mo_rd_lt _ _)))) (sy_oks_cons (sy_ok2 (wh_lt hw 1 (by first | decide | assumption))) (sy_oks_cons (sy_ok0 (by first | decide | assumption | omega | exact mo_rd_lt _ _ | exact mo_add_lt _ _ | exact mo_sub_lt _ _ | exact mo_mul_lt _ _ | exact mo_shl_lt _ _ | exact mo_ushr_lt _ _ | exact mo_or_lt (by decide) (mo_and_lt (mo_rd_lt _ _)) | exact mo_or_lt (mo_shl_lt _ _) (mo_and_lt (mo_rd_lt _ _)))) sy_oks_nil))) rfl xl11) (su_run (wh_lt hw 1 (by first | decide | assumption)) (wh_at hw 1 rfl) (by decide) (by first | decide | assumption | omega) (by first | decide | assumption | omega | exact mo_rd_lt _ _ | exact mo_add_lt _ _ | exact mo_sub_lt _ _ | exact mo_mul_lt _ _ | exact mo_shl_lt _ _ | exact mo_ushr_lt _ _ | exact mo_or_lt (by decide) (mo_and_lt (mo_rd_lt _ _)) | exact mo_or_lt (mo_shl_lt _ _) (mo_and_lt (mo_rd_lt _ _)))) (by decide) (by rw [xl11]; decide) sy_refl) ?_
  intro w hw
  simp only [List.set_cons_zero, List.set_cons_succ] at hw
  refine sy_Fs (sy_ild xc55_73 rfl rfl sy_refl) ?_
  refine sy_Fs (sy_aldn xc55_75 rfl rfl sy_refl) ?_
  refine sy_Fs (sy_gf xc55_76 xf55_9 rfl (wh_at hw 0 rfl) rfl (fh_at hX0 0 rfl rfl) sy_refl) ?_
  refine sy_Fs (sy_aldn xc55_79 rfl rfl sy_refl) ?_
  refine sy_Fs (sy_gf xc55_80 xf55_103 rfl (wh_at hw 0 rfl) rfl (fh_at hX0 1 rfl rfl) sy_refl) ?_
  refine sy_Fs (sy_bipush (v := 16) xc55_83 (by decide) (by decide) sy_refl) ?_
  refine sy_Fs (sx_iadd (z := (t + 16)) xc55_85 (Nat.mod_eq_of_lt (by omega))) ?_
  refine sy_Fw (i := 1) (x := (1, 1, 200, (su_4 (su_4 (su_4 (su_4 (su_4 Tp t a) (t + 4) b) (t + 8) c) (t + 12) d) (t + 16) e))) hw (by decide) (sy_callG (kd := 1) (as := [(0, e, 0), (2, pl 1, 0), (0, (t + 16), 0)]) (S0 := []) (ret := []) xc55_86 (sy_calS (as := [(0, e, 0), (2, pl 1, 0), (0, (t + 16), 0)]) (S0 := []) xm55_107 rfl rfl) rfl rfl rfl rfl (sy_oka (sy_oks_cons (sy_ok0 (by first | decide | assumption | omega | exact mo_rd_lt _ _ | exact mo_add_lt _ _ | exact mo_sub_lt _ _ | exact mo_mul_lt _ _ | exact mo_shl_lt _ _ | exact mo_ushr_lt _ _ | exact mo_or_lt (by decide) (mo_and_lt (mo_rd_lt _ _)) | exact mo_or_lt (mo_shl_lt _ _) (mo_and_lt (mo_rd_lt _ _)))) (sy_oks_cons (sy_ok2 (wh_lt hw 1 (by first | decide | assumption))) (sy_oks_cons (sy_ok0 (by first | decide | assumption | omega | exact mo_rd_lt _ _ | exact mo_add_lt _ _ | exact mo_sub_lt _ _ | exact mo_mul_lt _ _ | exact mo_shl_lt _ _ | exact mo_ushr_lt _ _ | exact mo_or_lt (by decide) (mo_and_lt (mo_rd_lt _ _)) | exact mo_or_lt (mo_shl_lt _ _) (mo_and_lt (mo_rd_lt _ _)))) sy_oks_nil))) rfl xl11) (su_run (wh_lt hw 1 (by first | decide | assumption)) (wh_at hw 1 rfl) (by decide) (by first | decide | assumption | omega) (by first | decide | assumption | omega | exact mo_rd_lt _ _ | exact mo_add_lt _ _ | exact mo_sub_lt _ _ | exact mo_mul_lt _ _ | exact mo_shl_lt _ _ | exact mo_ushr_lt _ _ | exact mo_or_lt (by decide) (mo_and_lt (mo_rd_lt _ _)) | exact mo_or_lt (mo_shl_lt _ _) (mo_and_lt (mo_rd_lt _ _)))) (by decide) (by rw [xl11]; decide) sy_refl) ?_
  intro w hw
  simp only [List.set_cons_zero, List.set_cons_succ] at hw
  refine sy_Fs (sy_aldn xc55_89 rfl rfl sy_refl) ?_
  refine sy_Fs (sy_dup xc55_90 rfl sy_refl) ?_
  refine sy_Fs (sy_gf xc55_91 xf55_103 rfl (wh_at hw 0 rfl) rfl (fh_at hX0 1 rfl rfl) sy_refl) ?_
  refine sy_Fs (sy_bipush (v := 20) xc55_94 (by decide) (by decide) sy_refl) ?_
  refine sy_Fs (sx_iadd (z := (t + 20)) xc55_96 (Nat.mod_eq_of_lt (by omega))) ?_
  refine sy_Ff (i := 0) (q := 1) (v := (0, (t + 20), 0)) hw hX0 (by decide) (by decide) rfl (sy_ok0 (by first | decide | assumption | omega | exact mo_rd_lt _ _ | exact mo_add_lt _ _ | exact mo_sub_lt _ _ | exact mo_mul_lt _ _ | exact mo_shl_lt _ _ | exact mo_ushr_lt _ _ | exact mo_or_lt (by decide) (mo_and_lt (mo_rd_lt _ _)) | exact mo_or_lt (mo_shl_lt _ _) (mo_and_lt (mo_rd_lt _ _)))) (sy_pfi xc55_97 xf55_103 rfl xt1_1 xn1_1 (wh_at hw 0 rfl) rfl (by first | decide | assumption | omega | exact mo_rd_lt _ _ | exact mo_add_lt _ _ | exact mo_sub_lt _ _ | exact mo_mul_lt _ _ | exact mo_shl_lt _ _ | exact mo_ushr_lt _ _ | exact mo_or_lt (by decide) (mo_and_lt (mo_rd_lt _ _)) | exact mo_or_lt (mo_shl_lt _ _) (mo_and_lt (mo_rd_lt _ _))) rfl sy_refl) ?_
  intro w X0 hw hX0
  simp only [List.set_cons_zero, List.set_cons_succ] at hw hX0
  refine sy_Fs (sy_aldn xc55_100 rfl rfl sy_refl) ?_
  refine sy_Fs (sy_gf xc55_101 xf55_103 rfl (wh_at hw 0 rfl) rfl (fh_at hX0 1 rfl rfl) sy_refl) ?_
  exact sy_Fi xc55_104 xr55 rfl ⟨rfl, X0, hw, hX0⟩
theorem rf_full (hw : wh 2 pl w0 w [(0, 0, 107, X0), (1, 1, 220, Tp)]) (hX0 : fh X0 jM [(0, th, 0), (2, pl 1, 0), (0, t, 0)]) {a b c d e : Nat} (ha : a < 4294967296) (hb : b < 4294967296) (hc : c < 4294967296) (hd : d < 4294967296) (he : e < 4294967296) (ht : 180 < t) (ht2 : t ≤ 200) : sy_D 95 n 0 0 [(2, pl 0, 0), (0, a, 0), (0, b, 0), (0, c, 0), (0, d, 0), (0, e, 0)] w (fun ret w' => ret = [(0, 4294967293, 0)] ∧ ∃ Y0, wh 2 pl w0 w' [(0, 0, 107, Y0), (1, 1, 220, Tp)] ∧ fh Y0 jM [(0, 0, 0), (2, pl 1, 0), (0, t, 0)]) := by
  refine sy_Dof (us := []) (sy_oks_cons (sy_ok2 (wh_lt hw 0 (by first | decide | assumption))) (sy_oks_cons (sy_ok0 (by first | decide | assumption | omega | exact mo_rd_lt _ _ | exact mo_add_lt _ _ | exact mo_sub_lt _ _ | exact mo_mul_lt _ _ | exact mo_shl_lt _ _ | exact mo_ushr_lt _ _ | exact mo_or_lt (by decide) (mo_and_lt (mo_rd_lt _ _)) | exact mo_or_lt (mo_shl_lt _ _) (mo_and_lt (mo_rd_lt _ _)))) (sy_oks_cons (sy_ok0 (by first | decide | assumption | omega | exact mo_rd_lt _ _ | exact mo_add_lt _ _ | exact mo_sub_lt _ _ | exact mo_mul_lt _ _ | exact mo_shl_lt _ _ | exact mo_ushr_lt _ _ | exact mo_or_lt (by decide) (mo_and_lt (mo_rd_lt _ _)) | exact mo_or_lt (mo_shl_lt _ _) (mo_and_lt (mo_rd_lt _ _)))) (sy_oks_cons (sy_ok0 (by first | decide | assumption | omega | exact mo_rd_lt _ _ | exact mo_add_lt _ _ | exact mo_sub_lt _ _ | exact mo_mul_lt _ _ | exact mo_shl_lt _ _ | exact mo_ushr_lt _ _ | exact mo_or_lt (by decide) (mo_and_lt (mo_rd_lt _ _)) | exact mo_or_lt (mo_shl_lt _ _) (mo_and_lt (mo_rd_lt _ _)))) (sy_oks_cons (sy_ok0 (by first | decide | assumption | omega | exact mo_rd_lt _ _ | exact mo_add_lt _ _ | exact mo_sub_lt _ _ | exact mo_mul_lt _ _ | exact mo_shl_lt _ _ | exact mo_ushr_lt _ _ | exact mo_or_lt (by decide) (mo_and_lt (mo_rd_lt _ _)) | exact mo_or_lt (mo_shl_lt _ _) (mo_and_lt (mo_rd_lt _ _)))) (sy_oks_cons (sy_ok0 (by first | decide | assumption | omega | exact mo_rd_lt _ _ | exact mo_add_lt _ _ | exact mo_sub_lt _ _ | exact mo_mul_lt _ _ | exact mo_shl_lt _ _ | exact mo_ushr_lt _ _ | exact mo_or_lt (by decide) (mo_and_lt (mo_rd_lt _ _)) | exact mo_or_lt (mo_shl_lt _ _) (mo_and_lt (mo_rd_lt _ _)))) sy_oks_nil)))))) rfl rfl ?_
  show sy_F 95 n 0 0 0 [(2, pl 0, 0), (0, a, 0), (0, b, 0), (0, c, 0), (0, d, 0), (0, e, 0)] [] w _
  refine sy_Fs (sy_aldn xc95_0 rfl rfl sy_refl) ?_
  refine sy_Fs (sy_iconst (v := 0) xc95_1 (by decide) sy_refl) ?_
  refine sy_Ff (i := 0) (q := 0) (v := (0, 0, 0)) hw hX0 (by decide) (by decide) rfl (sy_ok0 (by first | decide | assumption | omega | exact mo_rd_lt _ _ | exact mo_add_lt _ _ | exact mo_sub_lt _ _ | exact mo_mul_lt _ _ | exact mo_shl_lt _ _ | exact mo_ushr_lt _ _ | exact mo_or_lt (by decide) (mo_and_lt (mo_rd_lt _ _)) | exact mo_or_lt (mo_shl_lt _ _) (mo_and_lt (mo_rd_lt _ _)))) (sy_pfi xc95_2 xf95_1 rfl xt0_0 xn0_0 (wh_at hw 0 rfl) rfl (by first | decide | assumption | omega | exact mo_rd_lt _ _ | exact mo_add_lt _ _ | exact mo_sub_lt _ _ | exact mo_mul_lt _ _ | exact mo_shl_lt _ _ | exact mo_ushr_lt _ _ | exact mo_or_lt (by decide) (mo_and_lt (mo_rd_lt _ _)) | exact mo_or_lt (mo_shl_lt _ _) (mo_and_lt (mo_rd_lt _ _))) rfl sy_refl) ?_
  intro w X0 hw hX0
  simp only [List.set_cons_zero, List.set_cons_succ] at hw hX0
  refine sy_Fs (sy_aldn xc95_5 rfl rfl sy_refl) ?_
  refine sy_Fs (sy_gf xc95_6 xf95_138 rfl (wh_at hw 0 rfl) rfl (fh_at hX0 2 rfl rfl) sy_refl) ?_
  refine sy_Fs (sy_bipush (v := 20) xc95_9 (by decide) (by decide) sy_refl) ?_
  refine sy_Fs (sx_iadd (z := (t + 20)) xc95_11 (Nat.mod_eq_of_lt (by omega))) ?_
  refine sy_Fs (sy_sipush (v := 200) xc95_12 (by decide) (by decide) sy_refl) ?_
  refine sy_Fs (sy_icmple_f xc95_15 (by decide) (by omega) (by omega) sy_refl) ?_
  refine sy_Fs (sy_bipush (v := 4294967293) xc95_18 (by decide) (by decide) sy_refl) ?_
  exact sy_Fi xc95_20 xr95 rfl ⟨rfl, X0, hw, hX0⟩
theorem rf_feed (hw : wh 2 pl w0 w [(0, 0, 107, X0), (1, 1, 220, Tp)]) (hX0 : fh X0 jM [(0, th, 0), (2, pl 1, 0), (0, t, 0)]) {a b c d e : Nat} (ha : a < 4294967296) (hb : b < 4294967296) (hc : c < 4294967296) (hd : d < 4294967296) (he : e < 4294967296) (ht : t ≤ 180) : sy_D 95 n 1 23 [(2, pl 0, 0), (0, a, 0), (0, b, 0), (0, c, 0), (0, d, 0), (0, e, 0)] w (fun ret w' => ret = [(0, t + 20, 0)] ∧ ∃ Y0, wh 2 pl w0 w' [(0, 0, 107, Y0), (1, 1, 220, (pw_4 (pw_4 (pw_4 (pw_4 (pw_4 Tp t a) (t + 4) b) (t + 8) c) (t + 12) d) (t + 16) e))] ∧ fh Y0 jM [(0, 0, 0), (2, pl 1, 0), (0, (t + 20), 0)]) := by
  refine sy_Dof (us := []) (sy_oks_cons (sy_ok2 (wh_lt hw 0 (by first | decide | assumption))) (sy_oks_cons (sy_ok0 (by first | decide | assumption | omega | exact mo_rd_lt _ _ | exact mo_add_lt _ _ | exact mo_sub_lt _ _ | exact mo_mul_lt _ _ | exact mo_shl_lt _ _ | exact mo_ushr_lt _ _ | exact mo_or_lt (by decide) (mo_and_lt (mo_rd_lt _ _)) | exact mo_or_lt (mo_shl_lt _ _) (mo_and_lt (mo_rd_lt _ _)))) (sy_oks_cons (sy_ok0 (by first | decide | assumption | omega | exact mo_rd_lt _ _ | exact mo_add_lt _ _ | exact mo_sub_lt _ _ | exact mo_mul_lt _ _ | exact mo_shl_lt _ _ | exact mo_ushr_lt _ _ | exact mo_or_lt (by decide) (mo_and_lt (mo_rd_lt _ _)) | exact mo_or_lt (mo_shl_lt _ _) (mo_and_lt (mo_rd_lt _ _)))) (sy_oks_cons (sy_ok0 (by first | decide | assumption | omega | exact mo_rd_lt _ _ | exact mo_add_lt _ _ | exact mo_sub_lt _ _ | exact mo_mul_lt _ _ | exact mo_shl_lt _ _ | exact mo_ushr_lt _ _ | exact mo_or_lt (by decide) (mo_and_lt (mo_rd_lt _ _)) | exact mo_or_lt (mo_shl_lt _ _) (mo_and_lt (mo_rd_lt _ _)))) (sy_oks_cons (sy_ok0 (by first | decide | assumption | omega | exact mo_rd_lt _ _ | exact mo_add_lt _ _ | exact mo_sub_lt _ _ | exact mo_mul_lt _ _ | exact mo_shl_lt _ _ | exact mo_ushr_lt _ _ | exact mo_or_lt (by decide) (mo_and_lt (mo_rd_lt _ _)) | exact mo_or_lt (mo_shl_lt _ _) (mo_and_lt (mo_rd_lt _ _)))) (sy_oks_cons (sy_ok0 (by first | decide | assumption | omega | exact mo_rd_lt _ _ | exact mo_add_lt _ _ | exact mo_sub_lt _ _ | exact mo_mul_lt _ _ | exact mo_shl_lt _ _ | exact mo_ushr_lt _ _ | exact mo_or_lt (by decide) (mo_and_lt (mo_rd_lt _ _)) | exact mo_or_lt (mo_shl_lt _ _) (mo_and_lt (mo_rd_lt _ _)))) sy_oks_nil)))))) rfl rfl ?_
  show sy_F 95 n 1 23 0 [(2, pl 0, 0), (0, a, 0), (0, b, 0), (0, c, 0), (0, d, 0), (0, e, 0)] [] w _
  refine sy_Fs (sy_aldn xc95_0 rfl rfl sy_refl) ?_
  refine sy_Fs (sy_iconst (v := 0) xc95_1 (by decide) sy_refl) ?_
  refine sy_Ff (i := 0) (q := 0) (v := (0, 0, 0)) hw hX0 (by decide) (by decide) rfl (sy_ok0 (by first | decide | assumption | omega | exact mo_rd_lt _ _ | exact mo_add_lt _ _ | exact mo_sub_lt _ _ | exact mo_mul_lt _ _ | exact mo_shl_lt _ _ | exact mo_ushr_lt _ _ | exact mo_or_lt (by decide) (mo_and_lt (mo_rd_lt _ _)) | exact mo_or_lt (mo_shl_lt _ _) (mo_and_lt (mo_rd_lt _ _)))) (sy_pfi xc95_2 xf95_1 rfl xt0_0 xn0_0 (wh_at hw 0 rfl) rfl (by first | decide | assumption | omega | exact mo_rd_lt _ _ | exact mo_add_lt _ _ | exact mo_sub_lt _ _ | exact mo_mul_lt _ _ | exact mo_shl_lt _ _ | exact mo_ushr_lt _ _ | exact mo_or_lt (by decide) (mo_and_lt (mo_rd_lt _ _)) | exact mo_or_lt (mo_shl_lt _ _) (mo_and_lt (mo_rd_lt _ _))) rfl sy_refl) ?_
  intro w X0 hw hX0
  simp only [List.set_cons_zero, List.set_cons_succ] at hw hX0
  refine sy_Fs (sy_aldn xc95_5 rfl rfl sy_refl) ?_
  refine sy_Fs (sy_gf xc95_6 xf95_138 rfl (wh_at hw 0 rfl) rfl (fh_at hX0 2 rfl rfl) sy_refl) ?_
  refine sy_Fs (sy_bipush (v := 20) xc95_9 (by decide) (by decide) sy_refl) ?_
  refine sy_Fs (sx_iadd (z := (t + 20)) xc95_11 (Nat.mod_eq_of_lt (by omega))) ?_
  refine sy_Fs (sy_sipush (v := 200) xc95_12 (by decide) (by decide) sy_refl) ?_
  refine sy_Fs (sy_icmple_t (pc' := 21) xc95_15 (by decide) (by omega) (by decide) (by decide) sy_refl) ?_
  refine sy_Fs (sy_aldn xc95_21 rfl rfl sy_refl) ?_
  refine sy_Fs (sy_gf xc95_22 xf95_141 rfl (wh_at hw 0 rfl) rfl (fh_at hX0 1 rfl rfl) sy_refl) ?_
  refine sy_Fs (sy_aldn xc95_25 rfl rfl sy_refl) ?_
  refine sy_Fs (sy_gf xc95_26 xf95_138 rfl (wh_at hw 0 rfl) rfl (fh_at hX0 2 rfl rfl) sy_refl) ?_
  refine sy_Fs (sy_ildn xc95_29 rfl rfl sy_refl) ?_
  refine sy_Fw (i := 1) (x := (1, 1, 220, (pw_4 Tp t a))) hw (by decide) (sy_callG (kd := 1) (as := [(2, pl 1, 0), (0, t, 0), (0, a, 0)]) (S0 := []) (ret := []) xc95_30 (sy_calS (as := [(2, pl 1, 0), (0, t, 0), (0, a, 0)]) (S0 := []) xm95_144 rfl rfl) rfl rfl rfl rfl (sy_oka (sy_oks_cons (sy_ok2 (wh_lt hw 1 (by first | decide | assumption))) (sy_oks_cons (sy_ok0 (by first | decide | assumption | omega | exact mo_rd_lt _ _ | exact mo_add_lt _ _ | exact mo_sub_lt _ _ | exact mo_mul_lt _ _ | exact mo_shl_lt _ _ | exact mo_ushr_lt _ _ | exact mo_or_lt (by decide) (mo_and_lt (mo_rd_lt _ _)) | exact mo_or_lt (mo_shl_lt _ _) (mo_and_lt (mo_rd_lt _ _)))) (sy_oks_cons (sy_ok0 (by first | decide | assumption | omega | exact mo_rd_lt _ _ | exact mo_add_lt _ _ | exact mo_sub_lt _ _ | exact mo_mul_lt _ _ | exact mo_shl_lt _ _ | exact mo_ushr_lt _ _ | exact mo_or_lt (by decide) (mo_and_lt (mo_rd_lt _ _)) | exact mo_or_lt (mo_shl_lt _ _) (mo_and_lt (mo_rd_lt _ _)))) sy_oks_nil))) rfl xl96) (pw_run (wh_lt hw 1 (by first | decide | assumption)) (wh_at hw 1 rfl) (by decide) (by first | decide | assumption | omega) (by first | decide | assumption | omega | exact mo_rd_lt _ _ | exact mo_add_lt _ _ | exact mo_sub_lt _ _ | exact mo_mul_lt _ _ | exact mo_shl_lt _ _ | exact mo_ushr_lt _ _ | exact mo_or_lt (by decide) (mo_and_lt (mo_rd_lt _ _)) | exact mo_or_lt (mo_shl_lt _ _) (mo_and_lt (mo_rd_lt _ _)))) (by decide) (by rw [xl96]; decide) sy_refl) ?_
  intro w hw
  simp only [List.set_cons_zero, List.set_cons_succ] at hw
  refine sy_Fs (sy_aldn xc95_33 rfl rfl sy_refl) ?_
  refine sy_Fs (sy_gf xc95_34 xf95_141 rfl (wh_at hw 0 rfl) rfl (fh_at hX0 1 rfl rfl) sy_refl) ?_
  refine sy_Fs (sy_aldn xc95_37 rfl rfl sy_refl) ?_
  refine sy_Fs (sy_gf xc95_38 xf95_138 rfl (wh_at hw 0 rfl) rfl (fh_at hX0 2 rfl rfl) sy_refl) ?_
  refine sy_Fs (sy_iconst (v := 4) xc95_41 (by decide) sy_refl) ?_
  refine sy_Fs (sx_iadd (z := (t + 4)) xc95_42 (Nat.mod_eq_of_lt (by omega))) ?_
  refine sy_Fs (sy_ildn xc95_43 rfl rfl sy_refl) ?_
  refine sy_Fw (i := 1) (x := (1, 1, 220, (pw_4 (pw_4 Tp t a) (t + 4) b))) hw (by decide) (sy_callG (kd := 1) (as := [(2, pl 1, 0), (0, (t + 4), 0), (0, b, 0)]) (S0 := []) (ret := []) xc95_44 (sy_calS (as := [(2, pl 1, 0), (0, (t + 4), 0), (0, b, 0)]) (S0 := []) xm95_144 rfl rfl) rfl rfl rfl rfl (sy_oka (sy_oks_cons (sy_ok2 (wh_lt hw 1 (by first | decide | assumption))) (sy_oks_cons (sy_ok0 (by first | decide | assumption | omega | exact mo_rd_lt _ _ | exact mo_add_lt _ _ | exact mo_sub_lt _ _ | exact mo_mul_lt _ _ | exact mo_shl_lt _ _ | exact mo_ushr_lt _ _ | exact mo_or_lt (by decide) (mo_and_lt (mo_rd_lt _ _)) | exact mo_or_lt (mo_shl_lt _ _) (mo_and_lt (mo_rd_lt _ _)))) (sy_oks_cons (sy_ok0 (by first | decide | assumption | omega | exact mo_rd_lt _ _ | exact mo_add_lt _ _ | exact mo_sub_lt _ _ | exact mo_mul_lt _ _ | exact mo_shl_lt _ _ | exact mo_ushr_lt _ _ | exact mo_or_lt (by decide) (mo_and_lt (mo_rd_lt _ _)) | exact mo_or_lt (mo_shl_lt _ _) (mo_and_lt (mo_rd_lt _ _)))) sy_oks_nil))) rfl xl96) (pw_run (wh_lt hw 1 (by first | decide | assumption)) (wh_at hw 1 rfl) (by decide) (by first | decide | assumption | omega) (by first | decide | assumption | omega | exact mo_rd_lt _ _ | exact mo_add_lt _ _ | exact mo_sub_lt _ _ | exact mo_mul_lt _ _ | exact mo_shl_lt _ _ | exact mo_ushr_lt _ _ | exact mo_or_lt (by decide) (mo_and_lt (mo_rd_lt _ _)) | exact mo_or_lt (mo_shl_lt _ _) (mo_and_lt (mo_rd_lt _ _)))) (by decide) (by rw [xl96]; decide) sy_refl) ?_
  intro w hw
  simp only [List.set_cons_zero, List.set_cons_succ] at hw
  refine sy_Fs (sy_aldn xc95_47 rfl rfl sy_refl) ?_
  refine sy_Fs (sy_gf xc95_48 xf95_141 rfl (wh_at hw 0 rfl) rfl (fh_at hX0 1 rfl rfl) sy_refl) ?_
  refine sy_Fs (sy_aldn xc95_51 rfl rfl sy_refl) ?_
  refine sy_Fs (sy_gf xc95_52 xf95_138 rfl (wh_at hw 0 rfl) rfl (fh_at hX0 2 rfl rfl) sy_refl) ?_
  refine sy_Fs (sy_bipush (v := 8) xc95_55 (by decide) (by decide) sy_refl) ?_
  refine sy_Fs (sx_iadd (z := (t + 8)) xc95_57 (Nat.mod_eq_of_lt (by omega))) ?_
  refine sy_Fs (sy_ildn xc95_58 rfl rfl sy_refl) ?_
  refine sy_Fw (i := 1) (x := (1, 1, 220, (pw_4 (pw_4 (pw_4 Tp t a) (t + 4) b) (t + 8) c))) hw (by decide) (sy_callG (kd := 1) (as := [(2, pl 1, 0), (0, (t + 8), 0), (0, c, 0)]) (S0 := []) (ret := []) xc95_59 (sy_calS (as := [(2, pl 1, 0), (0, (t + 8), 0), (0, c, 0)]) (S0 := []) xm95_144 rfl rfl) rfl rfl rfl rfl (sy_oka (sy_oks_cons (sy_ok2 (wh_lt hw 1 (by first | decide | assumption))) (sy_oks_cons (sy_ok0 (by first | decide | assumption | omega | exact mo_rd_lt _ _ | exact mo_add_lt _ _ | exact mo_sub_lt _ _ | exact mo_mul_lt _ _ | exact mo_shl_lt _ _ | exact mo_ushr_lt _ _ | exact mo_or_lt (by decide) (mo_and_lt (mo_rd_lt _ _)) | exact mo_or_lt (mo_shl_lt _ _) (mo_and_lt (mo_rd_lt _ _)))) (sy_oks_cons (sy_ok0 (by first | decide | assumption | omega | exact mo_rd_lt _ _ | exact mo_add_lt _ _ | exact mo_sub_lt _ _ | exact mo_mul_lt _ _ | exact mo_shl_lt _ _ | exact mo_ushr_lt _ _ | exact mo_or_lt (by decide) (mo_and_lt (mo_rd_lt _ _)) | exact mo_or_lt (mo_shl_lt _ _) (mo_and_lt (mo_rd_lt _ _)))) sy_oks_nil))) rfl xl96) (pw_run (wh_lt hw 1 (by first | decide | assumption)) (wh_at hw 1 rfl) (by decide) (by first | decide | assumption | omega) (by first | decide | assumption | omega | exact mo_rd_lt _ _ | exact mo_add_lt _ _ | exact mo_sub_lt _ _ | exact mo_mul_lt _ _ | exact mo_shl_lt _ _ | exact mo_ushr_lt _ _ | exact mo_or_lt (by decide) (mo_and_lt (mo_rd_lt _ _)) | exact mo_or_lt (mo_shl_lt _ _) (mo_and_lt (mo_rd_lt _ _)))) (by decide) (by rw [xl96]; decide) sy_refl) ?_
  intro w hw
  simp only [List.set_cons_zero, List.set_cons_succ] at hw
  refine sy_Fs (sy_aldn xc95_62 rfl rfl sy_refl) ?_
  refine sy_Fs (sy_gf xc95_63 xf95_141 rfl (wh_at hw 0 rfl) rfl (fh_at hX0 1 rfl rfl) sy_refl) ?_
  refine sy_Fs (sy_aldn xc95_66 rfl rfl sy_refl) ?_
  refine sy_Fs (sy_gf xc95_67 xf95_138 rfl (wh_at hw 0 rfl) rfl (fh_at hX0 2 rfl rfl) sy_refl) ?_
  refine sy_Fs (sy_bipush (v := 12) xc95_70 (by decide) (by decide) sy_refl) ?_
  refine sy_Fs (sx_iadd (z := (t + 12)) xc95_72 (Nat.mod_eq_of_lt (by omega))) ?_
  refine sy_Fs (sy_ild xc95_73 rfl rfl sy_refl) ?_
  refine sy_Fw (i := 1) (x := (1, 1, 220, (pw_4 (pw_4 (pw_4 (pw_4 Tp t a) (t + 4) b) (t + 8) c) (t + 12) d))) hw (by decide) (sy_callG (kd := 1) (as := [(2, pl 1, 0), (0, (t + 12), 0), (0, d, 0)]) (S0 := []) (ret := []) xc95_75 (sy_calS (as := [(2, pl 1, 0), (0, (t + 12), 0), (0, d, 0)]) (S0 := []) xm95_144 rfl rfl) rfl rfl rfl rfl (sy_oka (sy_oks_cons (sy_ok2 (wh_lt hw 1 (by first | decide | assumption))) (sy_oks_cons (sy_ok0 (by first | decide | assumption | omega | exact mo_rd_lt _ _ | exact mo_add_lt _ _ | exact mo_sub_lt _ _ | exact mo_mul_lt _ _ | exact mo_shl_lt _ _ | exact mo_ushr_lt _ _ | exact mo_or_lt (by decide) (mo_and_lt (mo_rd_lt _ _)) | exact mo_or_lt (mo_shl_lt _ _) (mo_and_lt (mo_rd_lt _ _)))) (sy_oks_cons (sy_ok0 (by first | decide | assumption | omega | exact mo_rd_lt _ _ | exact mo_add_lt _ _ | exact mo_sub_lt _ _ | exact mo_mul_lt _ _ | exact mo_shl_lt _ _ | exact mo_ushr_lt _ _ | exact mo_or_lt (by decide) (mo_and_lt (mo_rd_lt _ _)) | exact mo_or_lt (mo_shl_lt _ _) (mo_and_lt (mo_rd_lt _ _)))) sy_oks_nil))) rfl xl96) (pw_run (wh_lt hw 1 (by first | decide | assumption)) (wh_at hw 1 rfl) (by decide) (by first | decide | assumption | omega) (by first | decide | assumption | omega | exact mo_rd_lt _ _ | exact mo_add_lt _ _ | exact mo_sub_lt _ _ | exact mo_mul_lt _ _ | exact mo_shl_lt _ _ | exact mo_ushr_lt _ _ | exact mo_or_lt (by decide) (mo_and_lt (mo_rd_lt _ _)) | exact mo_or_lt (mo_shl_lt _ _) (mo_and_lt (mo_rd_lt _ _)))) (by decide) (by rw [xl96]; decide) sy_refl) ?_
  intro w hw
  simp only [List.set_cons_zero, List.set_cons_succ] at hw
  refine sy_Fs (sy_aldn xc95_78 rfl rfl sy_refl) ?_
  refine sy_Fs (sy_gf xc95_79 xf95_141 rfl (wh_at hw 0 rfl) rfl (fh_at hX0 1 rfl rfl) sy_refl) ?_
  refine sy_Fs (sy_aldn xc95_82 rfl rfl sy_refl) ?_
  refine sy_Fs (sy_gf xc95_83 xf95_138 rfl (wh_at hw 0 rfl) rfl (fh_at hX0 2 rfl rfl) sy_refl) ?_
  refine sy_Fs (sy_bipush (v := 16) xc95_86 (by decide) (by decide) sy_refl) ?_
  refine sy_Fs (sx_iadd (z := (t + 16)) xc95_88 (Nat.mod_eq_of_lt (by omega))) ?_
  refine sy_Fs (sy_ild xc95_89 rfl rfl sy_refl) ?_
  refine sy_Fw (i := 1) (x := (1, 1, 220, (pw_4 (pw_4 (pw_4 (pw_4 (pw_4 Tp t a) (t + 4) b) (t + 8) c) (t + 12) d) (t + 16) e))) hw (by decide) (sy_callG (kd := 1) (as := [(2, pl 1, 0), (0, (t + 16), 0), (0, e, 0)]) (S0 := []) (ret := []) xc95_91 (sy_calS (as := [(2, pl 1, 0), (0, (t + 16), 0), (0, e, 0)]) (S0 := []) xm95_144 rfl rfl) rfl rfl rfl rfl (sy_oka (sy_oks_cons (sy_ok2 (wh_lt hw 1 (by first | decide | assumption))) (sy_oks_cons (sy_ok0 (by first | decide | assumption | omega | exact mo_rd_lt _ _ | exact mo_add_lt _ _ | exact mo_sub_lt _ _ | exact mo_mul_lt _ _ | exact mo_shl_lt _ _ | exact mo_ushr_lt _ _ | exact mo_or_lt (by decide) (mo_and_lt (mo_rd_lt _ _)) | exact mo_or_lt (mo_shl_lt _ _) (mo_and_lt (mo_rd_lt _ _)))) (sy_oks_cons (sy_ok0 (by first | decide | assumption | omega | exact mo_rd_lt _ _ | exact mo_add_lt _ _ | exact mo_sub_lt _ _ | exact mo_mul_lt _ _ | exact mo_shl_lt _ _ | exact mo_ushr_lt _ _ | exact mo_or_lt (by decide) (mo_and_lt (mo_rd_lt _ _)) | exact mo_or_lt (mo_shl_lt _ _) (mo_and_lt (mo_rd_lt _ _)))) sy_oks_nil))) rfl xl96) (pw_run (wh_lt hw 1 (by first | decide | assumption)) (wh_at hw 1 rfl) (by decide) (by first | decide | assumption | omega) (by first | decide | assumption | omega | exact mo_rd_lt _ _ | exact mo_add_lt _ _ | exact mo_sub_lt _ _ | exact mo_mul_lt _ _ | exact mo_shl_lt _ _ | exact mo_ushr_lt _ _ | exact mo_or_lt (by decide) (mo_and_lt (mo_rd_lt _ _)) | exact mo_or_lt (mo_shl_lt _ _) (mo_and_lt (mo_rd_lt _ _)))) (by decide) (by rw [xl96]; decide) sy_refl) ?_
  intro w hw
  simp only [List.set_cons_zero, List.set_cons_succ] at hw
  refine sy_Fs (sy_aldn xc95_94 rfl rfl sy_refl) ?_
  refine sy_Fs (sy_aldn xc95_95 rfl rfl sy_refl) ?_
  refine sy_Fs (sy_gf xc95_96 xf95_138 rfl (wh_at hw 0 rfl) rfl (fh_at hX0 2 rfl rfl) sy_refl) ?_
  refine sy_Fs (sy_bipush (v := 20) xc95_99 (by decide) (by decide) sy_refl) ?_
  refine sy_Fs (sx_iadd (z := (t + 20)) xc95_101 (Nat.mod_eq_of_lt (by omega))) ?_
  refine sy_Ff (i := 0) (q := 2) (v := (0, (t + 20), 0)) hw hX0 (by decide) (by decide) rfl (sy_ok0 (by first | decide | assumption | omega | exact mo_rd_lt _ _ | exact mo_add_lt _ _ | exact mo_sub_lt _ _ | exact mo_mul_lt _ _ | exact mo_shl_lt _ _ | exact mo_ushr_lt _ _ | exact mo_or_lt (by decide) (mo_and_lt (mo_rd_lt _ _)) | exact mo_or_lt (mo_shl_lt _ _) (mo_and_lt (mo_rd_lt _ _)))) (sy_pfi xc95_102 xf95_138 rfl xt0_17 xn0_17 (wh_at hw 0 rfl) rfl (by first | decide | assumption | omega | exact mo_rd_lt _ _ | exact mo_add_lt _ _ | exact mo_sub_lt _ _ | exact mo_mul_lt _ _ | exact mo_shl_lt _ _ | exact mo_ushr_lt _ _ | exact mo_or_lt (by decide) (mo_and_lt (mo_rd_lt _ _)) | exact mo_or_lt (mo_shl_lt _ _) (mo_and_lt (mo_rd_lt _ _))) rfl sy_refl) ?_
  intro w X0 hw hX0
  simp only [List.set_cons_zero, List.set_cons_succ] at hw hX0
  refine sy_Fs (sy_aldn xc95_105 rfl rfl sy_refl) ?_
  refine sy_Fs (sy_gf xc95_106 xf95_138 rfl (wh_at hw 0 rfl) rfl (fh_at hX0 2 rfl rfl) sy_refl) ?_
  exact sy_Fi xc95_109 xr95 rfl ⟨rfl, X0, hw, hX0⟩
end FC
section FI
variable {k n fr lo pc pc' pc2 : Nat} {ls ls' ls2 S S' S2 : List mv_V} {w w' w2 : mv_T 10}
theorem sx_i2ln {x : Nat} (hc : tt_cd k pc = (2, .i2l, 1)) (h : 2147483648 ≤ x) (hx : x < 4294967296) : sy_R k n fr lo pc ls ((0, x, 0) :: S) w (pc + 1) ls ((1, x + 18446744069414584320, 0) :: S) w := by
  refine sy_sk hc rfl ?_ sy_refl
  show some (1, (1, (mn_up x + 18446744071562067968) % 18446744073709551616, 0) :: S) = _
  have e : (mn_up x + 18446744071562067968) % 18446744073709551616 = x + 18446744069414584320 := by unfold mn_up; omega
  rw [e]
theorem sx_lcmp_n {x y : Nat} (hc : tt_cd k pc = (2, .lcmp, 1)) (hy : y < 9223372036854775808) (h : 9223372036854775808 ≤ x) (hx : x < 18446744073709551616) : sy_R k n fr lo pc ls ((1, y, 0) :: (1, x, 0) :: S) w (pc + 1) ls ((0, 4294967295, 0) :: S) w := by
  refine sy_sk hc rfl ?_ sy_refl
  have e : mv_lc (1, x, 0) (1, y, 0) = some (0, 4294967295, 0) := by
    unfold mv_lc
    have ex : mv_lv (1, x, 0) = (x - 9223372036854775808, x - 9223372036854775808) := by
      show (ml_up x, ml_up x) = _
      have : ml_up x = x - 9223372036854775808 := by unfold ml_up; omega
      rw [this]
    rw [sx_lv hy, ex]
    have a1 : Nat.blt (x - 9223372036854775808) (y + 9223372036854775808) = true := by
      rw [Nat.blt_eq]; omega
    dsimp only
    rw [a1]
    rfl
  rw [sk_lcmp, e]
  rfl
theorem xc98_0 : tt_cd 98 0 = (1, .lload_n 0, 1) := by decide +kernel
theorem xc98_1 : tt_cd 98 1 = (1, .lload_n 2, 1) := by decide +kernel
theorem xc98_2 : tt_cd 98 2 = (2, .lcmp, 1) := by decide +kernel
theorem xc98_3 : tt_cd 98 3 = (5, .ifCond .lt 14, 3) := by decide +kernel
theorem xc98_6 : tt_cd 98 6 = (1, .lload_n 0, 1) := by decide +kernel
theorem xc98_7 : tt_cd 98 7 = (1, .lload 4, 2) := by decide +kernel
theorem xc98_9 : tt_cd 98 9 = (2, .lcmp, 1) := by decide +kernel
theorem xc98_10 : tt_cd 98 10 = (5, .ifCond .gt 7, 3) := by decide +kernel
theorem xc98_13 : tt_cd 98 13 = (2, .iconst 1, 1) := by decide +kernel
theorem xc98_14 : tt_cd 98 14 = (5, .goto 4, 3) := by decide +kernel
theorem xc98_18 : tt_cd 98 18 = (9, .ireturn, 1) := by decide +kernel
theorem xr98 : tt_mr 98 = 4 := by decide +kernel
theorem wr_in {x b h : Nat} (hb : b ≤ x) (hx : x ≤ h) (hh : h < 2147483648) : sy_C 98 n 0 0 [(1, x, 0), (1, b, 0), (1, h, 0)] w [(0, 1, 0)] w := by
  have key : sy_F 98 n 0 0 0 [(1, x, 0), (255, 0, 0), (1, b, 0), (255, 0, 0), (1, h, 0), (255, 0, 0)] [] w (fun ret w' => ret = [(0, 1, 0)] ∧ w' = w) := by
    rcases (show x = b ∨ b < x by omega) with e1 | e1 <;> rcases Nat.eq_or_lt_of_le hx with e2 | e2
    ·
      refine sy_Fs (sy_lldn (j := 0) xc98_0 rfl rfl rfl sy_refl) ?_
      refine sy_Fs (sy_lldn (j := 2) xc98_1 rfl rfl rfl sy_refl) ?_
      refine sy_Fs (sx_lcmp_e xc98_2 (by omega) e1) ?_
      refine sy_Fs (sy_iflt_f xc98_3 (by decide) (by decide) sy_refl) ?_
      refine sy_Fs (sy_lldn (j := 0) xc98_6 rfl rfl rfl sy_refl) ?_
      refine sy_Fs (sx_lld xc98_7 rfl rfl) ?_
      refine sy_Fs (sx_lcmp_e xc98_9 (by omega) e2) ?_
      refine sy_Fs (sx_ifgt_f xc98_10 (by decide) (by decide) (by decide)) ?_
      refine sy_Fs (sy_iconst (v := 1) xc98_13 (by decide) sy_refl) ?_
      refine sy_Fs (sy_goto (pc' := 18) xc98_14 (by decide) (by decide) sy_refl) ?_
      exact sy_Fz xc98_18 xr98 (by decide) ⟨rfl, rfl⟩
    ·
      refine sy_Fs (sy_lldn (j := 0) xc98_0 rfl rfl rfl sy_refl) ?_
      refine sy_Fs (sy_lldn (j := 2) xc98_1 rfl rfl rfl sy_refl) ?_
      refine sy_Fs (sx_lcmp_e xc98_2 (by omega) e1) ?_
      refine sy_Fs (sy_iflt_f xc98_3 (by decide) (by decide) sy_refl) ?_
      refine sy_Fs (sy_lldn (j := 0) xc98_6 rfl rfl rfl sy_refl) ?_
      refine sy_Fs (sx_lld xc98_7 rfl rfl) ?_
      refine sy_Fs (sx_lcmp_l xc98_9 (by omega) e2) ?_
      refine sy_Fs (sx_ifgt_f xc98_10 (by decide) (by decide) (by decide)) ?_
      refine sy_Fs (sy_iconst (v := 1) xc98_13 (by decide) sy_refl) ?_
      refine sy_Fs (sy_goto (pc' := 18) xc98_14 (by decide) (by decide) sy_refl) ?_
      exact sy_Fz xc98_18 xr98 (by decide) ⟨rfl, rfl⟩
    ·
      refine sy_Fs (sy_lldn (j := 0) xc98_0 rfl rfl rfl sy_refl) ?_
      refine sy_Fs (sy_lldn (j := 2) xc98_1 rfl rfl rfl sy_refl) ?_
      refine sy_Fs (sx_lcmp_g xc98_2 (by omega) e1) ?_
      refine sy_Fs (sy_iflt_f xc98_3 (by decide) (by decide) sy_refl) ?_
      refine sy_Fs (sy_lldn (j := 0) xc98_6 rfl rfl rfl sy_refl) ?_
      refine sy_Fs (sx_lld xc98_7 rfl rfl) ?_
      refine sy_Fs (sx_lcmp_e xc98_9 (by omega) e2) ?_
      refine sy_Fs (sx_ifgt_f xc98_10 (by decide) (by decide) (by decide)) ?_
      refine sy_Fs (sy_iconst (v := 1) xc98_13 (by decide) sy_refl) ?_
      refine sy_Fs (sy_goto (pc' := 18) xc98_14 (by decide) (by decide) sy_refl) ?_
      exact sy_Fz xc98_18 xr98 (by decide) ⟨rfl, rfl⟩
    ·
      refine sy_Fs (sy_lldn (j := 0) xc98_0 rfl rfl rfl sy_refl) ?_
      refine sy_Fs (sy_lldn (j := 2) xc98_1 rfl rfl rfl sy_refl) ?_
      refine sy_Fs (sx_lcmp_g xc98_2 (by omega) e1) ?_
      refine sy_Fs (sy_iflt_f xc98_3 (by decide) (by decide) sy_refl) ?_
      refine sy_Fs (sy_lldn (j := 0) xc98_6 rfl rfl rfl sy_refl) ?_
      refine sy_Fs (sx_lld xc98_7 rfl rfl) ?_
      refine sy_Fs (sx_lcmp_l xc98_9 (by omega) e2) ?_
      refine sy_Fs (sx_ifgt_f xc98_10 (by decide) (by decide) (by decide)) ?_
      refine sy_Fs (sy_iconst (v := 1) xc98_13 (by decide) sy_refl) ?_
      refine sy_Fs (sy_goto (pc' := 18) xc98_14 (by decide) (by decide) sy_refl) ?_
      exact sy_Fz xc98_18 xr98 (by decide) ⟨rfl, rfl⟩
  obtain ⟨f, ret, w', ⟨rfl, rfl⟩, r⟩ := key _ (sx_l3 (by omega) (by omega) (by omega))
  exact ⟨f, r⟩
theorem xc98_17 : tt_cd 98 17 = (2, .iconst 0, 1) := by decide +kernel
theorem wr_inG {x b h : Nat} (hb : b < x) (hx : h < x) (hh : x < 2147483648) : sy_C 98 n 0 0 [(1, x, 0), (1, b, 0), (1, h, 0)] w [(0, 0, 0)] w := by
  have key : sy_F 98 n 0 0 0 [(1, x, 0), (255, 0, 0), (1, b, 0), (255, 0, 0), (1, h, 0), (255, 0, 0)] [] w (fun ret w' => ret = [(0, 0, 0)] ∧ w' = w) := by
    refine sy_Fs (sy_lldn (j := 0) xc98_0 rfl rfl rfl sy_refl) ?_
    refine sy_Fs (sy_lldn (j := 2) xc98_1 rfl rfl rfl sy_refl) ?_
    refine sy_Fs (sx_lcmp_g xc98_2 (by omega) hb) ?_
    refine sy_Fs (sy_iflt_f xc98_3 (by decide) (by decide) sy_refl) ?_
    refine sy_Fs (sy_lldn (j := 0) xc98_6 rfl rfl rfl sy_refl) ?_
    refine sy_Fs (sx_lld xc98_7 rfl rfl) ?_
    refine sy_Fs (sx_lcmp_g xc98_9 (by omega) hx) ?_
    refine sy_Fs (sx_ifgt_t (pc' := 17) xc98_10 (by decide) (by decide) (by decide) (by decide)) ?_
    refine sy_Fs (sy_iconst (v := 0) xc98_17 (by decide) sy_refl) ?_
    exact sy_Fz xc98_18 xr98 (by decide) ⟨rfl, rfl⟩
  obtain ⟨f, ret, w', ⟨rfl, rfl⟩, r⟩ := key _ (sx_l3 (by omega) (by omega) (by omega))
  exact ⟨f, r⟩
theorem wr_inN {x b h : Nat} (hx : 2147483648 ≤ x) (hx2 : x < 4294967296) (hb : b < 2147483648) (hh : h < 2147483648) : sy_C 98 n 0 0 [(1, (x + 18446744069414584320), 0), (1, b, 0), (1, h, 0)] w [(0, 0, 0)] w := by
  have key : sy_F 98 n 0 0 0 [(1, (x + 18446744069414584320), 0), (255, 0, 0), (1, b, 0), (255, 0, 0), (1, h, 0), (255, 0, 0)] [] w (fun ret w' => ret = [(0, 0, 0)] ∧ w' = w) := by
    refine sy_Fs (sy_lldn (j := 0) xc98_0 rfl rfl rfl sy_refl) ?_
    refine sy_Fs (sy_lldn (j := 2) xc98_1 rfl rfl rfl sy_refl) ?_
    refine sy_Fs (sx_lcmp_n xc98_2 (by omega) (by omega) (by omega)) ?_
    refine sy_Fs (sy_iflt_t (pc' := 17) xc98_3 (by decide) (by decide) (by decide) (by decide) sy_refl) ?_
    refine sy_Fs (sy_iconst (v := 0) xc98_17 (by decide) sy_refl) ?_
    exact sy_Fz xc98_18 xr98 (by decide) ⟨rfl, rfl⟩
  obtain ⟨f, ret, w', ⟨rfl, rfl⟩, r⟩ := key _ (sx_l3 (by omega) (by omega) (by omega))
  exact ⟨f, r⟩
end FI
section FD
variable {n : Nat} {pl : Nat → Nat} {w0 w : mv_T 10} {X0 Tp t th : Nat}
theorem cf_cutN (hw : wh 2 pl w0 w [(0, 1, 13, X0), (1, 1, 200, Tp)]) (hX0 : fh X0 jC [(2, pl 1, 0), (0, t, 0)]) {x : Nat} (h1 : 2147483648 ≤ x) (h2 : x < 4294967296) (ht : t ≤ 200) : sy_D 56 n 0 0 [(2, pl 0, 0), (0, x, 0)] w (fun ret w' => ret = [(0, 4294967295, 0)] ∧ ∃ Y0, wh 2 pl w0 w' [(0, 1, 13, Y0), (1, 1, 200, Tp)] ∧ fh Y0 jC [(2, pl 1, 0), (0, t, 0)]) := by
  refine sy_Dof (us := []) (sy_oks_cons (sy_ok2 (wh_lt hw 0 (by first | decide | assumption))) (sy_oks_cons (sy_ok0 (by first | decide | assumption | omega | exact mo_rd_lt _ _ | exact mo_add_lt _ _ | exact mo_sub_lt _ _ | exact mo_mul_lt _ _ | exact mo_shl_lt _ _ | exact mo_ushr_lt _ _ | exact mo_or_lt (by decide) (mo_and_lt (mo_rd_lt _ _)) | exact mo_or_lt (mo_shl_lt _ _) (mo_and_lt (mo_rd_lt _ _)))) sy_oks_nil)) rfl rfl ?_
  show sy_F 56 n 0 0 0 [(2, pl 0, 0), (0, x, 0)] [] w _
  refine sy_Fs (sy_ildn xc56_0 rfl rfl sy_refl) ?_
  refine sy_Fs (sy_iflt_t (pc' := 12) xc56_1 (by decide) (by omega) (by omega) (by decide) sy_refl) ?_
  refine sy_Fs (sy_iconst (v := 4294967295) xc56_12 (by decide) sy_refl) ?_
  exact sy_Fi xc56_13 xr56 rfl ⟨rfl, X0, hw, hX0⟩
theorem cf_cutB (hw : wh 2 pl w0 w [(0, 1, 13, X0), (1, 1, 200, Tp)]) (hX0 : fh X0 jC [(2, pl 1, 0), (0, t, 0)]) {x : Nat} (h1 : t < x) (h2 : x < 2147483648) (ht : t ≤ 200) : sy_D 56 n 0 0 [(2, pl 0, 0), (0, x, 0)] w (fun ret w' => ret = [(0, 4294967295, 0)] ∧ ∃ Y0, wh 2 pl w0 w' [(0, 1, 13, Y0), (1, 1, 200, Tp)] ∧ fh Y0 jC [(2, pl 1, 0), (0, t, 0)]) := by
  refine sy_Dof (us := []) (sy_oks_cons (sy_ok2 (wh_lt hw 0 (by first | decide | assumption))) (sy_oks_cons (sy_ok0 (by first | decide | assumption | omega | exact mo_rd_lt _ _ | exact mo_add_lt _ _ | exact mo_sub_lt _ _ | exact mo_mul_lt _ _ | exact mo_shl_lt _ _ | exact mo_ushr_lt _ _ | exact mo_or_lt (by decide) (mo_and_lt (mo_rd_lt _ _)) | exact mo_or_lt (mo_shl_lt _ _) (mo_and_lt (mo_rd_lt _ _)))) sy_oks_nil)) rfl rfl ?_
  show sy_F 56 n 0 0 0 [(2, pl 0, 0), (0, x, 0)] [] w _
  refine sy_Fs (sy_ildn xc56_0 rfl rfl sy_refl) ?_
  refine sy_Fs (sy_iflt_f xc56_1 (by decide) (by omega) sy_refl) ?_
  refine sy_Fs (sy_ildn xc56_4 rfl rfl sy_refl) ?_
  refine sy_Fs (sy_aldn xc56_5 rfl rfl sy_refl) ?_
  refine sy_Fs (sy_gf xc56_6 xf56_103 rfl (wh_at hw 0 rfl) rfl (fh_at hX0 1 rfl rfl) sy_refl) ?_
  refine sy_Fs (sy_icmple_f xc56_9 (by decide) (by omega) (by omega) sy_refl) ?_
  refine sy_Fs (sy_iconst (v := 4294967295) xc56_12 (by decide) sy_refl) ?_
  exact sy_Fi xc56_13 xr56 rfl ⟨rfl, X0, hw, hX0⟩
theorem cf_cutO (hw : wh 2 pl w0 w [(0, 1, 13, X0), (1, 1, 200, Tp)]) (hX0 : fh X0 jC [(2, pl 1, 0), (0, t, 0)]) {x : Nat} (h1 : x ≤ t) (ht : t ≤ 200) : sy_D 56 n 0 0 [(2, pl 0, 0), (0, x, 0)] w (fun ret w' => ret = [(0, t - x, 0)] ∧ ∃ Y0, wh 2 pl w0 w' [(0, 1, 13, Y0), (1, 1, 200, Tp)] ∧ fh Y0 jC [(2, pl 1, 0), (0, (t - x), 0)]) := by
  refine sy_Dof (us := []) (sy_oks_cons (sy_ok2 (wh_lt hw 0 (by first | decide | assumption))) (sy_oks_cons (sy_ok0 (by first | decide | assumption | omega | exact mo_rd_lt _ _ | exact mo_add_lt _ _ | exact mo_sub_lt _ _ | exact mo_mul_lt _ _ | exact mo_shl_lt _ _ | exact mo_ushr_lt _ _ | exact mo_or_lt (by decide) (mo_and_lt (mo_rd_lt _ _)) | exact mo_or_lt (mo_shl_lt _ _) (mo_and_lt (mo_rd_lt _ _)))) sy_oks_nil)) rfl rfl ?_
  show sy_F 56 n 0 0 0 [(2, pl 0, 0), (0, x, 0)] [] w _
  refine sy_Fs (sy_ildn xc56_0 rfl rfl sy_refl) ?_
  refine sy_Fs (sy_iflt_f xc56_1 (by decide) (by omega) sy_refl) ?_
  refine sy_Fs (sy_ildn xc56_4 rfl rfl sy_refl) ?_
  refine sy_Fs (sy_aldn xc56_5 rfl rfl sy_refl) ?_
  refine sy_Fs (sy_gf xc56_6 xf56_103 rfl (wh_at hw 0 rfl) rfl (fh_at hX0 1 rfl rfl) sy_refl) ?_
  refine sy_Fs (sy_icmple_t (pc' := 14) xc56_9 (by decide) (by omega) (by omega) (by decide) sy_refl) ?_
  refine sy_Fs (sy_aldn xc56_14 rfl rfl sy_refl) ?_
  refine sy_Fs (sy_dup xc56_15 rfl sy_refl) ?_
  refine sy_Fs (sy_gf xc56_16 xf56_103 rfl (wh_at hw 0 rfl) rfl (fh_at hX0 1 rfl rfl) sy_refl) ?_
  refine sy_Fs (sy_ildn xc56_19 rfl rfl sy_refl) ?_
  refine sy_Fs (sx_isub (z := (t - x)) xc56_20 (fc_sub (by omega) (by omega))) ?_
  refine sy_Ff (i := 0) (q := 1) (v := (0, (t - x), 0)) hw hX0 (by decide) (by decide) rfl (sy_ok0 (by first | decide | assumption | omega | exact mo_rd_lt _ _ | exact mo_add_lt _ _ | exact mo_sub_lt _ _ | exact mo_mul_lt _ _ | exact mo_shl_lt _ _ | exact mo_ushr_lt _ _ | exact mo_or_lt (by decide) (mo_and_lt (mo_rd_lt _ _)) | exact mo_or_lt (mo_shl_lt _ _) (mo_and_lt (mo_rd_lt _ _)))) (sy_pfi xc56_21 xf56_103 rfl xt1_1 xn1_1 (wh_at hw 0 rfl) rfl (by first | decide | assumption | omega | exact mo_rd_lt _ _ | exact mo_add_lt _ _ | exact mo_sub_lt _ _ | exact mo_mul_lt _ _ | exact mo_shl_lt _ _ | exact mo_ushr_lt _ _ | exact mo_or_lt (by decide) (mo_and_lt (mo_rd_lt _ _)) | exact mo_or_lt (mo_shl_lt _ _) (mo_and_lt (mo_rd_lt _ _))) rfl sy_refl) ?_
  intro w X0 hw hX0
  simp only [List.set_cons_zero, List.set_cons_succ] at hw hX0
  refine sy_Fs (sy_aldn xc56_24 rfl rfl sy_refl) ?_
  refine sy_Fs (sy_gf xc56_25 xf56_103 rfl (wh_at hw 0 rfl) rfl (fh_at hX0 1 rfl rfl) sy_refl) ?_
  exact sy_Fi xc56_28 xr56 rfl ⟨rfl, X0, hw, hX0⟩
theorem rf_cutN (hw : wh 2 pl w0 w [(0, 0, 107, X0), (1, 1, 220, Tp)]) (hX0 : fh X0 jM [(0, th, 0), (2, pl 1, 0), (0, t, 0)]) {x : Nat} (h1 : 2147483648 ≤ x) (h2 : x < 4294967296) (ht : t ≤ 200) : sy_D 97 n 1 25 [(2, pl 0, 0), (0, x, 0)] w (fun ret w' => ret = [(0, 4294967295, 0)] ∧ ∃ Y0, wh 2 pl w0 w' [(0, 0, 107, Y0), (1, 1, 220, Tp)] ∧ fh Y0 jM [(0, 0, 0), (2, pl 1, 0), (0, t, 0)]) := by
  refine sy_Dof (us := []) (sy_oks_cons (sy_ok2 (wh_lt hw 0 (by first | decide | assumption))) (sy_oks_cons (sy_ok0 (by first | decide | assumption | omega | exact mo_rd_lt _ _ | exact mo_add_lt _ _ | exact mo_sub_lt _ _ | exact mo_mul_lt _ _ | exact mo_shl_lt _ _ | exact mo_ushr_lt _ _ | exact mo_or_lt (by decide) (mo_and_lt (mo_rd_lt _ _)) | exact mo_or_lt (mo_shl_lt _ _) (mo_and_lt (mo_rd_lt _ _)))) sy_oks_nil)) rfl rfl ?_
  show sy_F 97 n 1 25 0 [(2, pl 0, 0), (0, x, 0)] [] w _
  refine sy_Fs (sy_aldn xc97_0 rfl rfl sy_refl) ?_
  refine sy_Fs (sy_iconst (v := 0) xc97_1 (by decide) sy_refl) ?_
  refine sy_Ff (i := 0) (q := 0) (v := (0, 0, 0)) hw hX0 (by decide) (by decide) rfl (sy_ok0 (by first | decide | assumption | omega | exact mo_rd_lt _ _ | exact mo_add_lt _ _ | exact mo_sub_lt _ _ | exact mo_mul_lt _ _ | exact mo_shl_lt _ _ | exact mo_ushr_lt _ _ | exact mo_or_lt (by decide) (mo_and_lt (mo_rd_lt _ _)) | exact mo_or_lt (mo_shl_lt _ _) (mo_and_lt (mo_rd_lt _ _)))) (sy_pfi xc97_2 xf97_1 rfl xt0_0 xn0_0 (wh_at hw 0 rfl) rfl (by first | decide | assumption | omega | exact mo_rd_lt _ _ | exact mo_add_lt _ _ | exact mo_sub_lt _ _ | exact mo_mul_lt _ _ | exact mo_shl_lt _ _ | exact mo_ushr_lt _ _ | exact mo_or_lt (by decide) (mo_and_lt (mo_rd_lt _ _)) | exact mo_or_lt (mo_shl_lt _ _) (mo_and_lt (mo_rd_lt _ _))) rfl sy_refl) ?_
  intro w X0 hw hX0
  simp only [List.set_cons_zero, List.set_cons_succ] at hw hX0
  refine sy_Fs (sy_ildn xc97_5 rfl rfl sy_refl) ?_
  refine sy_Fs (sx_i2ln xc97_6 (by omega) (by omega)) ?_
  refine sy_Fs (sy_lconst xc97_7 sy_refl) ?_
  refine sy_Fs (sy_aldn xc97_8 rfl rfl sy_refl) ?_
  refine sy_Fs (sy_gf xc97_9 xf97_138 rfl (wh_at hw 0 rfl) rfl (fh_at hX0 2 rfl rfl) sy_refl) ?_
  refine sy_Fs (sx_i2l xc97_12 (by first | decide | assumption | omega | exact mo_rd_lt _ _ | exact mo_add_lt _ _ | exact mo_sub_lt _ _ | exact mo_mul_lt _ _ | exact mo_shl_lt _ _ | exact mo_ushr_lt _ _ | exact mo_or_lt (by decide) (mo_and_lt (mo_rd_lt _ _)) | exact mo_or_lt (mo_shl_lt _ _) (mo_and_lt (mo_rd_lt _ _)))) ?_
  refine sy_Fs (sy_callG (kd := 1) (as := [(1, (x + 18446744069414584320), 0), (1, 0, 0), (1, t, 0)]) (S0 := []) (ret := [(0, 0, 0)]) xc97_13 (sy_calS (as := [(1, (x + 18446744069414584320), 0), (1, 0, 0), (1, t, 0)]) (S0 := []) xm97_147 rfl rfl) rfl rfl rfl rfl (sy_oka (sy_oks_cons (sy_ok1 (by first | decide | assumption | omega | exact mo_rd_lt _ _ | exact mo_add_lt _ _ | exact mo_sub_lt _ _ | exact mo_mul_lt _ _ | exact mo_shl_lt _ _ | exact mo_ushr_lt _ _ | exact mo_or_lt (by decide) (mo_and_lt (mo_rd_lt _ _)) | exact mo_or_lt (mo_shl_lt _ _) (mo_and_lt (mo_rd_lt _ _)))) (sy_oks_cons (sy_ok1 (by first | decide | assumption | omega | exact mo_rd_lt _ _ | exact mo_add_lt _ _ | exact mo_sub_lt _ _ | exact mo_mul_lt _ _ | exact mo_shl_lt _ _ | exact mo_ushr_lt _ _ | exact mo_or_lt (by decide) (mo_and_lt (mo_rd_lt _ _)) | exact mo_or_lt (mo_shl_lt _ _) (mo_and_lt (mo_rd_lt _ _)))) (sy_oks_cons (sy_ok1 (by first | decide | assumption | omega | exact mo_rd_lt _ _ | exact mo_add_lt _ _ | exact mo_sub_lt _ _ | exact mo_mul_lt _ _ | exact mo_shl_lt _ _ | exact mo_ushr_lt _ _ | exact mo_or_lt (by decide) (mo_and_lt (mo_rd_lt _ _)) | exact mo_or_lt (mo_shl_lt _ _) (mo_and_lt (mo_rd_lt _ _)))) sy_oks_nil))) rfl xl98) (wr_inN (by omega) (by omega) (by omega) (by omega)) (by decide) (by rw [xl98]; decide) sy_refl) ?_
  refine sy_Fs (sy_ifne_f xc97_16 (by decide) (by decide) sy_refl) ?_
  refine sy_Fs (sy_iconst (v := 4294967295) xc97_19 (by decide) sy_refl) ?_
  exact sy_Fi xc97_20 xr97 rfl ⟨rfl, X0, hw, hX0⟩
theorem rf_cutB (hw : wh 2 pl w0 w [(0, 0, 107, X0), (1, 1, 220, Tp)]) (hX0 : fh X0 jM [(0, th, 0), (2, pl 1, 0), (0, t, 0)]) {x : Nat} (h1 : t < x) (h2 : x < 2147483648) (ht : t ≤ 200) : sy_D 97 n 1 25 [(2, pl 0, 0), (0, x, 0)] w (fun ret w' => ret = [(0, 4294967295, 0)] ∧ ∃ Y0, wh 2 pl w0 w' [(0, 0, 107, Y0), (1, 1, 220, Tp)] ∧ fh Y0 jM [(0, 0, 0), (2, pl 1, 0), (0, t, 0)]) := by
  refine sy_Dof (us := []) (sy_oks_cons (sy_ok2 (wh_lt hw 0 (by first | decide | assumption))) (sy_oks_cons (sy_ok0 (by first | decide | assumption | omega | exact mo_rd_lt _ _ | exact mo_add_lt _ _ | exact mo_sub_lt _ _ | exact mo_mul_lt _ _ | exact mo_shl_lt _ _ | exact mo_ushr_lt _ _ | exact mo_or_lt (by decide) (mo_and_lt (mo_rd_lt _ _)) | exact mo_or_lt (mo_shl_lt _ _) (mo_and_lt (mo_rd_lt _ _)))) sy_oks_nil)) rfl rfl ?_
  show sy_F 97 n 1 25 0 [(2, pl 0, 0), (0, x, 0)] [] w _
  refine sy_Fs (sy_aldn xc97_0 rfl rfl sy_refl) ?_
  refine sy_Fs (sy_iconst (v := 0) xc97_1 (by decide) sy_refl) ?_
  refine sy_Ff (i := 0) (q := 0) (v := (0, 0, 0)) hw hX0 (by decide) (by decide) rfl (sy_ok0 (by first | decide | assumption | omega | exact mo_rd_lt _ _ | exact mo_add_lt _ _ | exact mo_sub_lt _ _ | exact mo_mul_lt _ _ | exact mo_shl_lt _ _ | exact mo_ushr_lt _ _ | exact mo_or_lt (by decide) (mo_and_lt (mo_rd_lt _ _)) | exact mo_or_lt (mo_shl_lt _ _) (mo_and_lt (mo_rd_lt _ _)))) (sy_pfi xc97_2 xf97_1 rfl xt0_0 xn0_0 (wh_at hw 0 rfl) rfl (by first | decide | assumption | omega | exact mo_rd_lt _ _ | exact mo_add_lt _ _ | exact mo_sub_lt _ _ | exact mo_mul_lt _ _ | exact mo_shl_lt _ _ | exact mo_ushr_lt _ _ | exact mo_or_lt (by decide) (mo_and_lt (mo_rd_lt _ _)) | exact mo_or_lt (mo_shl_lt _ _) (mo_and_lt (mo_rd_lt _ _))) rfl sy_refl) ?_
  intro w X0 hw hX0
  simp only [List.set_cons_zero, List.set_cons_succ] at hw hX0
  refine sy_Fs (sy_ildn xc97_5 rfl rfl sy_refl) ?_
  refine sy_Fs (sx_i2l xc97_6 (by first | decide | assumption | omega | exact mo_rd_lt _ _ | exact mo_add_lt _ _ | exact mo_sub_lt _ _ | exact mo_mul_lt _ _ | exact mo_shl_lt _ _ | exact mo_ushr_lt _ _ | exact mo_or_lt (by decide) (mo_and_lt (mo_rd_lt _ _)) | exact mo_or_lt (mo_shl_lt _ _) (mo_and_lt (mo_rd_lt _ _)))) ?_
  refine sy_Fs (sy_lconst xc97_7 sy_refl) ?_
  refine sy_Fs (sy_aldn xc97_8 rfl rfl sy_refl) ?_
  refine sy_Fs (sy_gf xc97_9 xf97_138 rfl (wh_at hw 0 rfl) rfl (fh_at hX0 2 rfl rfl) sy_refl) ?_
  refine sy_Fs (sx_i2l xc97_12 (by first | decide | assumption | omega | exact mo_rd_lt _ _ | exact mo_add_lt _ _ | exact mo_sub_lt _ _ | exact mo_mul_lt _ _ | exact mo_shl_lt _ _ | exact mo_ushr_lt _ _ | exact mo_or_lt (by decide) (mo_and_lt (mo_rd_lt _ _)) | exact mo_or_lt (mo_shl_lt _ _) (mo_and_lt (mo_rd_lt _ _)))) ?_
  refine sy_Fs (sy_callG (kd := 1) (as := [(1, x, 0), (1, 0, 0), (1, t, 0)]) (S0 := []) (ret := [(0, 0, 0)]) xc97_13 (sy_calS (as := [(1, x, 0), (1, 0, 0), (1, t, 0)]) (S0 := []) xm97_147 rfl rfl) rfl rfl rfl rfl (sy_oka (sy_oks_cons (sy_ok1 (by first | decide | assumption | omega | exact mo_rd_lt _ _ | exact mo_add_lt _ _ | exact mo_sub_lt _ _ | exact mo_mul_lt _ _ | exact mo_shl_lt _ _ | exact mo_ushr_lt _ _ | exact mo_or_lt (by decide) (mo_and_lt (mo_rd_lt _ _)) | exact mo_or_lt (mo_shl_lt _ _) (mo_and_lt (mo_rd_lt _ _)))) (sy_oks_cons (sy_ok1 (by first | decide | assumption | omega | exact mo_rd_lt _ _ | exact mo_add_lt _ _ | exact mo_sub_lt _ _ | exact mo_mul_lt _ _ | exact mo_shl_lt _ _ | exact mo_ushr_lt _ _ | exact mo_or_lt (by decide) (mo_and_lt (mo_rd_lt _ _)) | exact mo_or_lt (mo_shl_lt _ _) (mo_and_lt (mo_rd_lt _ _)))) (sy_oks_cons (sy_ok1 (by first | decide | assumption | omega | exact mo_rd_lt _ _ | exact mo_add_lt _ _ | exact mo_sub_lt _ _ | exact mo_mul_lt _ _ | exact mo_shl_lt _ _ | exact mo_ushr_lt _ _ | exact mo_or_lt (by decide) (mo_and_lt (mo_rd_lt _ _)) | exact mo_or_lt (mo_shl_lt _ _) (mo_and_lt (mo_rd_lt _ _)))) sy_oks_nil))) rfl xl98) (wr_inG (by omega) (by omega) (by omega)) (by decide) (by rw [xl98]; decide) sy_refl) ?_
  refine sy_Fs (sy_ifne_f xc97_16 (by decide) (by decide) sy_refl) ?_
  refine sy_Fs (sy_iconst (v := 4294967295) xc97_19 (by decide) sy_refl) ?_
  exact sy_Fi xc97_20 xr97 rfl ⟨rfl, X0, hw, hX0⟩
theorem rf_cutO (hw : wh 2 pl w0 w [(0, 0, 107, X0), (1, 1, 220, Tp)]) (hX0 : fh X0 jM [(0, th, 0), (2, pl 1, 0), (0, t, 0)]) {x : Nat} (h1 : x ≤ t) (ht : t ≤ 200) : sy_D 97 n 1 25 [(2, pl 0, 0), (0, x, 0)] w (fun ret w' => ret = [(0, t - x, 0)] ∧ ∃ Y0, wh 2 pl w0 w' [(0, 0, 107, Y0), (1, 1, 220, Tp)] ∧ fh Y0 jM [(0, 0, 0), (2, pl 1, 0), (0, (t - x), 0)]) := by
  refine sy_Dof (us := []) (sy_oks_cons (sy_ok2 (wh_lt hw 0 (by first | decide | assumption))) (sy_oks_cons (sy_ok0 (by first | decide | assumption | omega | exact mo_rd_lt _ _ | exact mo_add_lt _ _ | exact mo_sub_lt _ _ | exact mo_mul_lt _ _ | exact mo_shl_lt _ _ | exact mo_ushr_lt _ _ | exact mo_or_lt (by decide) (mo_and_lt (mo_rd_lt _ _)) | exact mo_or_lt (mo_shl_lt _ _) (mo_and_lt (mo_rd_lt _ _)))) sy_oks_nil)) rfl rfl ?_
  show sy_F 97 n 1 25 0 [(2, pl 0, 0), (0, x, 0)] [] w _
  refine sy_Fs (sy_aldn xc97_0 rfl rfl sy_refl) ?_
  refine sy_Fs (sy_iconst (v := 0) xc97_1 (by decide) sy_refl) ?_
  refine sy_Ff (i := 0) (q := 0) (v := (0, 0, 0)) hw hX0 (by decide) (by decide) rfl (sy_ok0 (by first | decide | assumption | omega | exact mo_rd_lt _ _ | exact mo_add_lt _ _ | exact mo_sub_lt _ _ | exact mo_mul_lt _ _ | exact mo_shl_lt _ _ | exact mo_ushr_lt _ _ | exact mo_or_lt (by decide) (mo_and_lt (mo_rd_lt _ _)) | exact mo_or_lt (mo_shl_lt _ _) (mo_and_lt (mo_rd_lt _ _)))) (sy_pfi xc97_2 xf97_1 rfl xt0_0 xn0_0 (wh_at hw 0 rfl) rfl (by first | decide | assumption | omega | exact mo_rd_lt _ _ | exact mo_add_lt _ _ | exact mo_sub_lt _ _ | exact mo_mul_lt _ _ | exact mo_shl_lt _ _ | exact mo_ushr_lt _ _ | exact mo_or_lt (by decide) (mo_and_lt (mo_rd_lt _ _)) | exact mo_or_lt (mo_shl_lt _ _) (mo_and_lt (mo_rd_lt _ _))) rfl sy_refl) ?_
  intro w X0 hw hX0
  simp only [List.set_cons_zero, List.set_cons_succ] at hw hX0
  refine sy_Fs (sy_ildn xc97_5 rfl rfl sy_refl) ?_
  refine sy_Fs (sx_i2l xc97_6 (by first | decide | assumption | omega | exact mo_rd_lt _ _ | exact mo_add_lt _ _ | exact mo_sub_lt _ _ | exact mo_mul_lt _ _ | exact mo_shl_lt _ _ | exact mo_ushr_lt _ _ | exact mo_or_lt (by decide) (mo_and_lt (mo_rd_lt _ _)) | exact mo_or_lt (mo_shl_lt _ _) (mo_and_lt (mo_rd_lt _ _)))) ?_
  refine sy_Fs (sy_lconst xc97_7 sy_refl) ?_
  refine sy_Fs (sy_aldn xc97_8 rfl rfl sy_refl) ?_
  refine sy_Fs (sy_gf xc97_9 xf97_138 rfl (wh_at hw 0 rfl) rfl (fh_at hX0 2 rfl rfl) sy_refl) ?_
  refine sy_Fs (sx_i2l xc97_12 (by first | decide | assumption | omega | exact mo_rd_lt _ _ | exact mo_add_lt _ _ | exact mo_sub_lt _ _ | exact mo_mul_lt _ _ | exact mo_shl_lt _ _ | exact mo_ushr_lt _ _ | exact mo_or_lt (by decide) (mo_and_lt (mo_rd_lt _ _)) | exact mo_or_lt (mo_shl_lt _ _) (mo_and_lt (mo_rd_lt _ _)))) ?_
  refine sy_Fs (sy_callG (kd := 1) (as := [(1, x, 0), (1, 0, 0), (1, t, 0)]) (S0 := []) (ret := [(0, 1, 0)]) xc97_13 (sy_calS (as := [(1, x, 0), (1, 0, 0), (1, t, 0)]) (S0 := []) xm97_147 rfl rfl) rfl rfl rfl rfl (sy_oka (sy_oks_cons (sy_ok1 (by first | decide | assumption | omega | exact mo_rd_lt _ _ | exact mo_add_lt _ _ | exact mo_sub_lt _ _ | exact mo_mul_lt _ _ | exact mo_shl_lt _ _ | exact mo_ushr_lt _ _ | exact mo_or_lt (by decide) (mo_and_lt (mo_rd_lt _ _)) | exact mo_or_lt (mo_shl_lt _ _) (mo_and_lt (mo_rd_lt _ _)))) (sy_oks_cons (sy_ok1 (by first | decide | assumption | omega | exact mo_rd_lt _ _ | exact mo_add_lt _ _ | exact mo_sub_lt _ _ | exact mo_mul_lt _ _ | exact mo_shl_lt _ _ | exact mo_ushr_lt _ _ | exact mo_or_lt (by decide) (mo_and_lt (mo_rd_lt _ _)) | exact mo_or_lt (mo_shl_lt _ _) (mo_and_lt (mo_rd_lt _ _)))) (sy_oks_cons (sy_ok1 (by first | decide | assumption | omega | exact mo_rd_lt _ _ | exact mo_add_lt _ _ | exact mo_sub_lt _ _ | exact mo_mul_lt _ _ | exact mo_shl_lt _ _ | exact mo_ushr_lt _ _ | exact mo_or_lt (by decide) (mo_and_lt (mo_rd_lt _ _)) | exact mo_or_lt (mo_shl_lt _ _) (mo_and_lt (mo_rd_lt _ _)))) sy_oks_nil))) rfl xl98) (wr_in (by omega) (by omega) (by omega)) (by decide) (by rw [xl98]; decide) sy_refl) ?_
  refine sy_Fs (sy_ifne_t (pc' := 21) xc97_16 (by decide) (by decide) (by decide) (by decide) sy_refl) ?_
  refine sy_Fs (sy_aldn xc97_21 rfl rfl sy_refl) ?_
  refine sy_Fs (sy_aldn xc97_22 rfl rfl sy_refl) ?_
  refine sy_Fs (sy_gf xc97_23 xf97_138 rfl (wh_at hw 0 rfl) rfl (fh_at hX0 2 rfl rfl) sy_refl) ?_
  refine sy_Fs (sy_ildn xc97_26 rfl rfl sy_refl) ?_
  refine sy_Fs (sx_isub (z := (t - x)) xc97_27 (fc_sub (by omega) (by omega))) ?_
  refine sy_Ff (i := 0) (q := 2) (v := (0, (t - x), 0)) hw hX0 (by decide) (by decide) rfl (sy_ok0 (by first | decide | assumption | omega | exact mo_rd_lt _ _ | exact mo_add_lt _ _ | exact mo_sub_lt _ _ | exact mo_mul_lt _ _ | exact mo_shl_lt _ _ | exact mo_ushr_lt _ _ | exact mo_or_lt (by decide) (mo_and_lt (mo_rd_lt _ _)) | exact mo_or_lt (mo_shl_lt _ _) (mo_and_lt (mo_rd_lt _ _)))) (sy_pfi xc97_28 xf97_138 rfl xt0_17 xn0_17 (wh_at hw 0 rfl) rfl (by first | decide | assumption | omega | exact mo_rd_lt _ _ | exact mo_add_lt _ _ | exact mo_sub_lt _ _ | exact mo_mul_lt _ _ | exact mo_shl_lt _ _ | exact mo_ushr_lt _ _ | exact mo_or_lt (by decide) (mo_and_lt (mo_rd_lt _ _)) | exact mo_or_lt (mo_shl_lt _ _) (mo_and_lt (mo_rd_lt _ _))) rfl sy_refl) ?_
  intro w X0 hw hX0
  simp only [List.set_cons_zero, List.set_cons_succ] at hw hX0
  refine sy_Fs (sy_aldn xc97_31 rfl rfl sy_refl) ?_
  refine sy_Fs (sy_gf xc97_32 xf97_138 rfl (wh_at hw 0 rfl) rfl (fh_at hX0 2 rfl rfl) sy_refl) ?_
  exact sy_Fi xc97_35 xr97 rfl ⟨rfl, X0, hw, hX0⟩
end FD
