/-! WAITING AND FORGET, FROM ANY STATE -/
theorem xc70_0 : tt_cd 70 0 = (1, .aload_n 0, 1) := by decide +kernel
theorem xc70_1 : tt_cd 70 1 = (3, .getfield 88, 3) := by decide +kernel
theorem xf70_88 : tt_fl 70 88 = (1, 1, 7) := by decide +kernel
theorem xc70_4 : tt_cd 70 4 = (3, .getfield 224, 3) := by decide +kernel
theorem xf70_224 : tt_fl 70 224 = (2, 8, 5) := by decide +kernel
theorem xc70_7 : tt_cd 70 7 = (9, .ireturn, 1) := by decide +kernel
theorem xr70 : tt_mr 70 = 1 := by decide +kernel
theorem xc140_0 : tt_cd 140 0 = (1, .aload_n 0, 1) := by decide +kernel
theorem xc140_1 : tt_cd 140 1 = (2, .iconst 0, 1) := by decide +kernel
theorem xc140_2 : tt_cd 140 2 = (6, .putfield 1, 3) := by decide +kernel
theorem xf140_1 : tt_fl 140 1 = (1, 0, 0) := by decide +kernel
theorem xc140_5 : tt_cd 140 5 = (1, .aload_n 0, 1) := by decide +kernel
theorem xc140_6 : tt_cd 140 6 = (3, .getfield 646, 3) := by decide +kernel
theorem xf140_646 : tt_fl 140 646 = (1, 0, 53) := by decide +kernel
theorem xc140_9 : tt_cd 140 9 = (9, .ireturn, 1) := by decide +kernel
theorem xr140 : tt_mr 140 = 1 := by decide +kernel
theorem xc71_0 : tt_cd 71 0 = (1, .aload_n 0, 1) := by decide +kernel
theorem xc71_1 : tt_cd 71 1 = (3, .getfield 88, 3) := by decide +kernel
theorem xf71_88 : tt_fl 71 88 = (1, 1, 7) := by decide +kernel
theorem xc71_4 : tt_cd 71 4 = (3, .getfield 224, 3) := by decide +kernel
theorem xf71_224 : tt_fl 71 224 = (2, 8, 5) := by decide +kernel
theorem xc71_7 : tt_cd 71 7 = (1, .istore_n 1, 1) := by decide +kernel
theorem xl71 : tt_mL 71 = 2 := by decide +kernel
theorem xc71_8 : tt_cd 71 8 = (1, .aload_n 0, 1) := by decide +kernel
theorem xc71_9 : tt_cd 71 9 = (3, .getfield 88, 3) := by decide +kernel
theorem xc71_12 : tt_cd 71 12 = (2, .iconst 0, 1) := by decide +kernel
theorem xc71_13 : tt_cd 71 13 = (6, .putfield 224, 3) := by decide +kernel
theorem xt8_5 : tt_fty 8 5 = .int := by decide +kernel
theorem xn8_5 : tt_ffin 8 5 = false := by decide +kernel
theorem xc71_16 : tt_cd 71 16 = (1, .iload_n 1, 1) := by decide +kernel
theorem xc71_17 : tt_cd 71 17 = (9, .ireturn, 1) := by decide +kernel
theorem xr71 : tt_mr 71 = 1 := by decide +kernel
theorem xc141_0 : tt_cd 141 0 = (1, .aload_n 0, 1) := by decide +kernel
theorem xc141_1 : tt_cd 141 1 = (2, .iconst 0, 1) := by decide +kernel
theorem xc141_2 : tt_cd 141 2 = (6, .putfield 1, 3) := by decide +kernel
theorem xf141_1 : tt_fl 141 1 = (1, 0, 0) := by decide +kernel
theorem xc141_5 : tt_cd 141 5 = (1, .aload_n 0, 1) := by decide +kernel
theorem xc141_6 : tt_cd 141 6 = (3, .getfield 646, 3) := by decide +kernel
theorem xf141_646 : tt_fl 141 646 = (1, 0, 53) := by decide +kernel
theorem xc141_9 : tt_cd 141 9 = (1, .istore_n 1, 1) := by decide +kernel
theorem xl141 : tt_mL 141 = 2 := by decide +kernel
theorem xc141_10 : tt_cd 141 10 = (1, .aload_n 0, 1) := by decide +kernel
theorem xc141_11 : tt_cd 141 11 = (2, .iconst 0, 1) := by decide +kernel
theorem xc141_12 : tt_cd 141 12 = (6, .putfield 646, 3) := by decide +kernel
theorem xt0_53 : tt_fty 0 53 = .int := by decide +kernel
theorem xn0_53 : tt_ffin 0 53 = false := by decide +kernel
theorem xc141_15 : tt_cd 141 15 = (1, .iload_n 1, 1) := by decide +kernel
theorem xc141_16 : tt_cd 141 16 = (9, .ireturn, 1) := by decide +kernel
theorem xr141 : tt_mr 141 = 1 := by decide +kernel
section FW
variable {n : Nat} {pl : Nat → Nat} {w0 w : mv_T 10} {X0 X1 q th : Nat}
def jC1 : List Nat := [7]
def jK1 : List Nat := [5]
def jM1 : List Nat := [0, 53]
theorem cwt (hw : wh 2 pl w0 w [(0, 1, 13, X0), (0, 8, 11, X1)]) (hX0 : fh X0 jC1 [(2, pl 1, 0)]) (hX1 : fh X1 jK1 [(0, q, 0)]) (hq : q ≤ 12) : sy_D 70 n 0 0 [(2, pl 0, 0)] w (fun ret w' => ret = [(0, q, 0)] ∧ ∃ Y1, wh 2 pl w0 w' [(0, 1, 13, X0), (0, 8, 11, Y1)] ∧ fh Y1 jK1 [(0, q, 0)]) := by
  refine sy_Dof (us := []) (sy_oks_cons (sy_ok2 (wh_lt hw 0 (by first | decide | assumption))) sy_oks_nil) rfl rfl ?_
  show sy_F 70 n 0 0 0 [(2, pl 0, 0)] [] w _
  refine sy_Fs (sy_aldn xc70_0 rfl rfl sy_refl) ?_
  refine sy_Fs (sy_gf xc70_1 xf70_88 rfl (wh_at hw 0 rfl) rfl (fh_at hX0 0 rfl rfl) sy_refl) ?_
  refine sy_Fs (sy_gf xc70_4 xf70_224 rfl (wh_at hw 1 rfl) rfl (fh_at hX1 0 rfl rfl) sy_refl) ?_
  exact sy_Fi xc70_7 xr70 rfl ⟨rfl, X1, hw, hX1⟩
theorem rwt (hw : wh 1 pl w0 w [(0, 0, 107, X0)]) (hX0 : fh X0 jM1 [(0, th, 0), (0, q, 0)]) (hq : q ≤ 12) : sy_D 140 n 0 0 [(2, pl 0, 0)] w (fun ret w' => ret = [(0, q, 0)] ∧ ∃ Y0, wh 1 pl w0 w' [(0, 0, 107, Y0)] ∧ fh Y0 jM1 [(0, 0, 0), (0, q, 0)]) := by
  refine sy_Dof (us := []) (sy_oks_cons (sy_ok2 (wh_lt hw 0 (by first | decide | assumption))) sy_oks_nil) rfl rfl ?_
  show sy_F 140 n 0 0 0 [(2, pl 0, 0)] [] w _
  refine sy_Fs (sy_aldn xc140_0 rfl rfl sy_refl) ?_
  refine sy_Fs (sy_iconst (v := 0) xc140_1 (by decide) sy_refl) ?_
  refine sy_Ff (i := 0) (q := 0) (v := (0, 0, 0)) hw hX0 (by decide) (by decide) rfl (sy_ok0 (by first | decide | assumption | omega | exact mo_rd_lt _ _ | exact mo_add_lt _ _ | exact mo_sub_lt _ _ | exact mo_mul_lt _ _ | exact mo_shl_lt _ _ | exact mo_ushr_lt _ _ | exact mo_or_lt (by decide) (mo_and_lt (mo_rd_lt _ _)) | exact mo_or_lt (mo_shl_lt _ _) (mo_and_lt (mo_rd_lt _ _)))) (sy_pfi xc140_2 xf140_1 rfl xt0_0 xn0_0 (wh_at hw 0 rfl) rfl (by first | decide | assumption | omega | exact mo_rd_lt _ _ | exact mo_add_lt _ _ | exact mo_sub_lt _ _ | exact mo_mul_lt _ _ | exact mo_shl_lt _ _ | exact mo_ushr_lt _ _ | exact mo_or_lt (by decide) (mo_and_lt (mo_rd_lt _ _)) | exact mo_or_lt (mo_shl_lt _ _) (mo_and_lt (mo_rd_lt _ _))) rfl sy_refl) ?_
  intro w X0 hw hX0
  simp only [List.set_cons_zero, List.set_cons_succ] at hw hX0
  refine sy_Fs (sy_aldn xc140_5 rfl rfl sy_refl) ?_
  refine sy_Fs (sy_gf xc140_6 xf140_646 rfl (wh_at hw 0 rfl) rfl (fh_at hX0 1 rfl rfl) sy_refl) ?_
  exact sy_Fi xc140_9 xr140 rfl ⟨rfl, X0, hw, hX0⟩
theorem cfg (hw : wh 2 pl w0 w [(0, 1, 13, X0), (0, 8, 11, X1)]) (hX0 : fh X0 jC1 [(2, pl 1, 0)]) (hX1 : fh X1 jK1 [(0, q, 0)]) (hq : q ≤ 12) : sy_D 71 n 0 0 [(2, pl 0, 0)] w (fun ret w' => ret = [(0, q, 0)] ∧ ∃ Y1, wh 2 pl w0 w' [(0, 1, 13, X0), (0, 8, 11, Y1)] ∧ fh Y1 jK1 [(0, 0, 0)]) := by
  refine sy_Dof (us := [(255, 0, 0)]) (sy_oks_cons (sy_ok2 (wh_lt hw 0 (by first | decide | assumption))) sy_oks_nil) rfl rfl ?_
  show sy_F 71 n 0 0 0 [(2, pl 0, 0), (255, 0, 0)] [] w _
  refine sy_Fs (sy_aldn xc71_0 rfl rfl sy_refl) ?_
  refine sy_Fs (sy_gf xc71_1 xf71_88 rfl (wh_at hw 0 rfl) rfl (fh_at hX0 0 rfl rfl) sy_refl) ?_
  refine sy_Fs (sy_gf xc71_4 xf71_224 rfl (wh_at hw 1 rfl) rfl (fh_at hX1 0 rfl rfl) sy_refl) ?_
  refine sy_Fs (sx_istn (j := 1) (ls' := [(2, pl 0, 0), (0, q, 0)]) xc71_7 rfl rfl (sy_ok0 (by first | decide | assumption | omega | exact mo_rd_lt _ _ | exact mo_add_lt _ _ | exact mo_sub_lt _ _ | exact mo_mul_lt _ _ | exact mo_shl_lt _ _ | exact mo_ushr_lt _ _ | exact mo_or_lt (by decide) (mo_and_lt (mo_rd_lt _ _)) | exact mo_or_lt (mo_shl_lt _ _) (mo_and_lt (mo_rd_lt _ _)))) (by rw [xl71]; rfl) rfl rfl) ?_
  refine sy_Fs (sy_aldn xc71_8 rfl rfl sy_refl) ?_
  refine sy_Fs (sy_gf xc71_9 xf71_88 rfl (wh_at hw 0 rfl) rfl (fh_at hX0 0 rfl rfl) sy_refl) ?_
  refine sy_Fs (sy_iconst (v := 0) xc71_12 (by decide) sy_refl) ?_
  refine sy_Ff (i := 1) (q := 0) (v := (0, 0, 0)) hw hX1 (by decide) (by decide) rfl (sy_ok0 (by first | decide | assumption | omega | exact mo_rd_lt _ _ | exact mo_add_lt _ _ | exact mo_sub_lt _ _ | exact mo_mul_lt _ _ | exact mo_shl_lt _ _ | exact mo_ushr_lt _ _ | exact mo_or_lt (by decide) (mo_and_lt (mo_rd_lt _ _)) | exact mo_or_lt (mo_shl_lt _ _) (mo_and_lt (mo_rd_lt _ _)))) (sy_pfi xc71_13 xf71_224 rfl xt8_5 xn8_5 (wh_at hw 1 rfl) rfl (by first | decide | assumption | omega | exact mo_rd_lt _ _ | exact mo_add_lt _ _ | exact mo_sub_lt _ _ | exact mo_mul_lt _ _ | exact mo_shl_lt _ _ | exact mo_ushr_lt _ _ | exact mo_or_lt (by decide) (mo_and_lt (mo_rd_lt _ _)) | exact mo_or_lt (mo_shl_lt _ _) (mo_and_lt (mo_rd_lt _ _))) rfl sy_refl) ?_
  intro w X1 hw hX1
  simp only [List.set_cons_zero, List.set_cons_succ] at hw hX1
  refine sy_Fs (sy_ildn xc71_16 rfl rfl sy_refl) ?_
  exact sy_Fi xc71_17 xr71 rfl ⟨rfl, X1, hw, hX1⟩
theorem rfg (hw : wh 1 pl w0 w [(0, 0, 107, X0)]) (hX0 : fh X0 jM1 [(0, th, 0), (0, q, 0)]) (hq : q ≤ 12) : sy_D 141 n 0 0 [(2, pl 0, 0)] w (fun ret w' => ret = [(0, q, 0)] ∧ ∃ Y0, wh 1 pl w0 w' [(0, 0, 107, Y0)] ∧ fh Y0 jM1 [(0, 0, 0), (0, 0, 0)]) := by
  refine sy_Dof (us := [(255, 0, 0)]) (sy_oks_cons (sy_ok2 (wh_lt hw 0 (by first | decide | assumption))) sy_oks_nil) rfl rfl ?_
  show sy_F 141 n 0 0 0 [(2, pl 0, 0), (255, 0, 0)] [] w _
  refine sy_Fs (sy_aldn xc141_0 rfl rfl sy_refl) ?_
  refine sy_Fs (sy_iconst (v := 0) xc141_1 (by decide) sy_refl) ?_
  refine sy_Ff (i := 0) (q := 0) (v := (0, 0, 0)) hw hX0 (by decide) (by decide) rfl (sy_ok0 (by first | decide | assumption | omega | exact mo_rd_lt _ _ | exact mo_add_lt _ _ | exact mo_sub_lt _ _ | exact mo_mul_lt _ _ | exact mo_shl_lt _ _ | exact mo_ushr_lt _ _ | exact mo_or_lt (by decide) (mo_and_lt (mo_rd_lt _ _)) | exact mo_or_lt (mo_shl_lt _ _) (mo_and_lt (mo_rd_lt _ _)))) (sy_pfi xc141_2 xf141_1 rfl xt0_0 xn0_0 (wh_at hw 0 rfl) rfl (by first | decide | assumption | omega | exact mo_rd_lt _ _ | exact mo_add_lt _ _ | exact mo_sub_lt _ _ | exact mo_mul_lt _ _ | exact mo_shl_lt _ _ | exact mo_ushr_lt _ _ | exact mo_or_lt (by decide) (mo_and_lt (mo_rd_lt _ _)) | exact mo_or_lt (mo_shl_lt _ _) (mo_and_lt (mo_rd_lt _ _))) rfl sy_refl) ?_
  intro w X0 hw hX0
  simp only [List.set_cons_zero, List.set_cons_succ] at hw hX0
  refine sy_Fs (sy_aldn xc141_5 rfl rfl sy_refl) ?_
  refine sy_Fs (sy_gf xc141_6 xf141_646 rfl (wh_at hw 0 rfl) rfl (fh_at hX0 1 rfl rfl) sy_refl) ?_
  refine sy_Fs (sx_istn (j := 1) (ls' := [(2, pl 0, 0), (0, q, 0)]) xc141_9 rfl rfl (sy_ok0 (by first | decide | assumption | omega | exact mo_rd_lt _ _ | exact mo_add_lt _ _ | exact mo_sub_lt _ _ | exact mo_mul_lt _ _ | exact mo_shl_lt _ _ | exact mo_ushr_lt _ _ | exact mo_or_lt (by decide) (mo_and_lt (mo_rd_lt _ _)) | exact mo_or_lt (mo_shl_lt _ _) (mo_and_lt (mo_rd_lt _ _)))) (by rw [xl141]; rfl) rfl rfl) ?_
  refine sy_Fs (sy_aldn xc141_10 rfl rfl sy_refl) ?_
  refine sy_Fs (sy_iconst (v := 0) xc141_11 (by decide) sy_refl) ?_
  refine sy_Ff (i := 0) (q := 1) (v := (0, 0, 0)) hw hX0 (by decide) (by decide) rfl (sy_ok0 (by first | decide | assumption | omega | exact mo_rd_lt _ _ | exact mo_add_lt _ _ | exact mo_sub_lt _ _ | exact mo_mul_lt _ _ | exact mo_shl_lt _ _ | exact mo_ushr_lt _ _ | exact mo_or_lt (by decide) (mo_and_lt (mo_rd_lt _ _)) | exact mo_or_lt (mo_shl_lt _ _) (mo_and_lt (mo_rd_lt _ _)))) (sy_pfi xc141_12 xf141_646 rfl xt0_53 xn0_53 (wh_at hw 0 rfl) rfl (by first | decide | assumption | omega | exact mo_rd_lt _ _ | exact mo_add_lt _ _ | exact mo_sub_lt _ _ | exact mo_mul_lt _ _ | exact mo_shl_lt _ _ | exact mo_ushr_lt _ _ | exact mo_or_lt (by decide) (mo_and_lt (mo_rd_lt _ _)) | exact mo_or_lt (mo_shl_lt _ _) (mo_and_lt (mo_rd_lt _ _))) rfl sy_refl) ?_
  intro w X0 hw hX0
  simp only [List.set_cons_zero, List.set_cons_succ] at hw hX0
  refine sy_Fs (sy_ildn xc141_15 rfl rfl sy_refl) ?_
  exact sy_Fi xc141_16 xr141 rfl ⟨rfl, X0, hw, hX0⟩
end FW
