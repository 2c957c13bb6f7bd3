/-! A BLOCK THAT CAN'T BE READ -/
theorem xc22_8 : tt_cd 22 8 = (2, .iconst 2, 1) := by decide +kernel
theorem xc22_9 : tt_cd 22 9 = (4, .bipush 33, 2) := by decide +kernel
theorem xc22_11 : tt_cd 22 11 = (1, .iload_n 0, 1) := by decide +kernel
theorem xc22_12 : tt_cd 22 12 = (2, .imul, 1) := by decide +kernel
theorem xc22_13 : tt_cd 22 13 = (2, .iadd, 1) := by decide +kernel
theorem xc81_30 : tt_cd 81 30 = (2, .iconst (-1), 1) := by decide +kernel
theorem xc81_31 : tt_cd 81 31 = (9, .ireturn, 1) := by decide +kernel
theorem xc81_46 : tt_cd 81 46 = (2, .iconst (-1), 1) := by decide +kernel
theorem xc81_47 : tt_cd 81 47 = (9, .ireturn, 1) := by decide +kernel
theorem xc81_78 : tt_cd 81 78 = (2, .iconst (-1), 1) := by decide +kernel
theorem xc81_79 : tt_cd 81 79 = (9, .ireturn, 1) := by decide +kernel
theorem xc80_31 : tt_cd 80 31 = (2, .iconst (-1), 1) := by decide +kernel
theorem xc80_32 : tt_cd 80 32 = (9, .ireturn, 1) := by decide +kernel
theorem xc79_52 : tt_cd 79 52 = (2, .iconst 0, 1) := by decide +kernel
theorem xc79_53 : tt_cd 79 53 = (9, .ireturn, 1) := by decide +kernel
theorem xc148_21 : tt_cd 148 21 = (1, .iload_n 1, 1) := by decide +kernel
theorem xc148_22 : tt_cd 148 22 = (2, .iconst 1, 1) := by decide +kernel
theorem xc148_23 : tt_cd 148 23 = (2, .iadd, 1) := by decide +kernel
theorem xc148_24 : tt_cd 148 24 = (4, .bipush 33, 2) := by decide +kernel
theorem xc148_26 : tt_cd 148 26 = (1, .aload_n 0, 1) := by decide +kernel
theorem xc148_27 : tt_cd 148 27 = (1, .iload_n 1, 1) := by decide +kernel
theorem xc148_28 : tt_cd 148 28 = (3, .baload, 1) := by decide +kernel
theorem xc148_29 : tt_cd 148 29 = (2, .imul, 1) := by decide +kernel
theorem xc148_30 : tt_cd 148 30 = (2, .iadd, 1) := by decide +kernel
theorem xc148_31 : tt_cd 148 31 = (1, .istore_n 3, 1) := by decide +kernel
theorem xc148_32 : tt_cd 148 32 = (1, .iload_n 3, 1) := by decide +kernel
theorem xc148_33 : tt_cd 148 33 = (1, .iload_n 2, 1) := by decide +kernel
theorem xc148_34 : tt_cd 148 34 = (5, .if_icmp .ge 17, 3) := by decide +kernel
theorem xc148_51 : tt_cd 148 51 = (2, .iconst 0, 1) := by decide +kernel
theorem xc148_52 : tt_cd 148 52 = (9, .ireturn, 1) := by decide +kernel
theorem xc147_116 : tt_cd 147 116 = (2, .iconst 0, 1) := by decide +kernel
theorem xc147_117 : tt_cd 147 117 = (9, .ireturn, 1) := by decide +kernel
theorem xc147_90 : tt_cd 147 90 = (2, .iconst 0, 1) := by decide +kernel
theorem xc146_57 : tt_cd 146 57 = (2, .iconst 0, 1) := by decide +kernel
theorem xc146_58 : tt_cd 146 58 = (9, .ireturn, 1) := by decide +kernel
section SN
variable {k n fr lo pc pc' : Nat} {ls S : List mv_V} {w : mv_T 10}
theorem sx_ltn_t {off : Int} {x y : Nat} (hc : tt_cd k pc = (5, .if_icmp .lt off, 3)) (ht : mv_tgok pc off = true) (h : 2147483648 ≤ x) (hx : x < 4294967296) (hy : y < 2147483648) (hp : mv_tg pc off = pc') {pc2 : Nat} {ls2 S2 : List mv_V} {w2 : mv_T 10} (kk : sy_R k n fr lo pc' ls S w pc2 ls2 S2 w2) : sy_R k n fr lo pc ls ((0, y, 0) :: (0, x, 0) :: S) w pc2 ls2 S2 w2 := by
  subst hp
  refine sy_bk hc rfl rfl ?_ kk
  show (bif mv_tgok pc off then (mv_lt (0, x, 0) (0, y, 0)).map (fun b => (bif b then mv_tg pc off else pc + 3, S)) else none) = _
  have e : mv_lt (0, x, 0) (0, y, 0) = some true := mv_lt_of rfl rfl (by rw [sy_iv0, sy_iv0]; show mn_up x < mn_up y; unfold mn_up; omega)
  rw [ht, e]
  rfl
theorem sx_gen_f {off : Int} {x y : Nat} (hc : tt_cd k pc = (5, .if_icmp .ge off, 3)) (ht : mv_tgok pc off = true) (h : 2147483648 ≤ x) (hx : x < 4294967296) (hy : y < 2147483648) {pc2 : Nat} {ls2 S2 : List mv_V} {w2 : mv_T 10} (kk : sy_R k n fr lo (pc + 3) ls S w pc2 ls2 S2 w2) : sy_R k n fr lo pc ls ((0, y, 0) :: (0, x, 0) :: S) w pc2 ls2 S2 w2 := by
  refine sy_bk hc rfl rfl ?_ kk
  show (bif mv_tgok pc off then ((mv_lt (0, x, 0) (0, y, 0)).map (fun b => !b)).map (fun b => (bif b then mv_tg pc off else pc + 3, S)) else none) = _
  have e : mv_lt (0, x, 0) (0, y, 0) = some true := mv_lt_of rfl rfl (by rw [sy_iv0, sy_iv0]; show mn_up x < mn_up y; unfold mn_up; omega)
  rw [ht, e]
  rfl
theorem sx_i2ln {x : Nat} (hc : tt_cd k pc = (2, .i2l, 1)) (h : 2147483648 ≤ x) (hx : x < 4294967296) : sy_R k n fr lo pc ls ((0, x, 0) :: S) w (pc + 1) ls ((1, x + 18446744069414584320, 0) :: S) w := by
  refine sy_sk hc rfl ?_ sy_refl
  show some (1, (1, (mn_up x + 18446744071562067968) % 18446744073709551616, 0) :: S) = _
  have e : (mn_up x + 18446744071562067968) % 18446744073709551616 = x + 18446744069414584320 := by unfold mn_up; omega
  rw [e]
theorem sx_lcmp_n {x y : Nat} (hc : tt_cd k pc = (2, .lcmp, 1)) (hy : y < 9223372036854775808) (h : 9223372036854775808 ≤ x) (hx : x < 18446744073709551616) : sy_R k n fr lo pc ls ((1, y, 0) :: (1, x, 0) :: S) w (pc + 1) ls ((0, 4294967295, 0) :: S) w := by
  refine sy_sk hc rfl ?_ sy_refl
  have e : mv_lc (1, x, 0) (1, y, 0) = some (0, 4294967295, 0) := by
    unfold mv_lc
    have ex : mv_lv (1, x, 0) = (x - 9223372036854775808, x - 9223372036854775808) := by
      show (ml_up x, ml_up x) = _
      have : ml_up x = x - 9223372036854775808 := by unfold ml_up; omega
      rw [this]
    rw [sx_lv hy, ex]
    have a1 : Nat.blt (x - 9223372036854775808) (y + 9223372036854775808) = true := by
      rw [Nat.blt_eq]; omega
    dsimp only
    rw [a1]
    rfl
  rw [sk_lcmp, e]
  rfl
end SN
section CB
variable {n : Nat} {pl : Nat → Nat} {w0 w : mv_T 10} {X0 X1 X3 X8 X11 X17 cbs Hd Id Fi cps Pb Pl ckn Dg cff cbf Ids Sp Sw Ss In stl su sl : Nat}
theorem cg_hb1 : sy_D 22 n 0 0 [(0, 1, 0)] w (fun ret w' => ret = [(0, 35, 0)] ∧ w' = w) := by
  refine sy_Dof (us := []) (sy_oks_cons (sy_ok0 (by first | decide | assumption | omega | exact mo_rd_lt _ _ | exact mo_add_lt _ _ | exact mo_sub_lt _ _ | exact mo_mul_lt _ _ | exact mo_shl_lt _ _ | exact mo_ushr_lt _ _ | exact mo_or_lt (by decide) (mo_and_lt (mo_rd_lt _ _)) | exact mo_or_lt (mo_shl_lt _ _) (mo_and_lt (mo_rd_lt _ _)))) sy_oks_nil) rfl rfl ?_
  show sy_F 22 n 0 0 0 [(0, 1, 0)] [] w _
  refine sy_Fs (sy_ildn xc22_0 rfl rfl sy_refl) ?_
  refine sy_Fs (sy_ifne_t (pc' := 8) xc22_1 (by decide) (by decide) (by decide) (by decide) sy_refl) ?_
  refine sy_Fs (sy_iconst (v := 2) xc22_8 (by decide) sy_refl) ?_
  refine sy_Fs (sy_bipush (v := 33) xc22_9 (by decide) (by decide) sy_refl) ?_
  refine sy_Fs (sy_ildn xc22_11 rfl rfl sy_refl) ?_
  refine sy_Fs (sx_imul (z := 33) xc22_12 (by decide)) ?_
  refine sy_Fs (sx_iadd (z := 35) xc22_13 (by decide)) ?_
  exact sy_Fi xc22_14 xr22 rfl ⟨rfl, rfl⟩
theorem cg_hb2 : sy_D 22 n 0 0 [(0, 2, 0)] w (fun ret w' => ret = [(0, 68, 0)] ∧ w' = w) := by
  refine sy_Dof (us := []) (sy_oks_cons (sy_ok0 (by first | decide | assumption | omega | exact mo_rd_lt _ _ | exact mo_add_lt _ _ | exact mo_sub_lt _ _ | exact mo_mul_lt _ _ | exact mo_shl_lt _ _ | exact mo_ushr_lt _ _ | exact mo_or_lt (by decide) (mo_and_lt (mo_rd_lt _ _)) | exact mo_or_lt (mo_shl_lt _ _) (mo_and_lt (mo_rd_lt _ _)))) sy_oks_nil) rfl rfl ?_
  show sy_F 22 n 0 0 0 [(0, 2, 0)] [] w _
  refine sy_Fs (sy_ildn xc22_0 rfl rfl sy_refl) ?_
  refine sy_Fs (sy_ifne_t (pc' := 8) xc22_1 (by decide) (by decide) (by decide) (by decide) sy_refl) ?_
  refine sy_Fs (sy_iconst (v := 2) xc22_8 (by decide) sy_refl) ?_
  refine sy_Fs (sy_bipush (v := 33) xc22_9 (by decide) (by decide) sy_refl) ?_
  refine sy_Fs (sy_ildn xc22_11 rfl rfl sy_refl) ?_
  refine sy_Fs (sx_imul (z := 66) xc22_12 (by decide)) ?_
  refine sy_Fs (sx_iadd (z := 68) xc22_13 (by decide)) ?_
  exact sy_Fi xc22_14 xr22 rfl ⟨rfl, rfl⟩
theorem cg_hb3 : sy_D 22 n 0 0 [(0, 3, 0)] w (fun ret w' => ret = [(0, 101, 0)] ∧ w' = w) := by
  refine sy_Dof (us := []) (sy_oks_cons (sy_ok0 (by first | decide | assumption | omega | exact mo_rd_lt _ _ | exact mo_add_lt _ _ | exact mo_sub_lt _ _ | exact mo_mul_lt _ _ | exact mo_shl_lt _ _ | exact mo_ushr_lt _ _ | exact mo_or_lt (by decide) (mo_and_lt (mo_rd_lt _ _)) | exact mo_or_lt (mo_shl_lt _ _) (mo_and_lt (mo_rd_lt _ _)))) sy_oks_nil) rfl rfl ?_
  show sy_F 22 n 0 0 0 [(0, 3, 0)] [] w _
  refine sy_Fs (sy_ildn xc22_0 rfl rfl sy_refl) ?_
  refine sy_Fs (sy_ifne_t (pc' := 8) xc22_1 (by decide) (by decide) (by decide) (by decide) sy_refl) ?_
  refine sy_Fs (sy_iconst (v := 2) xc22_8 (by decide) sy_refl) ?_
  refine sy_Fs (sy_bipush (v := 33) xc22_9 (by decide) (by decide) sy_refl) ?_
  refine sy_Fs (sy_ildn xc22_11 rfl rfl sy_refl) ?_
  refine sy_Fs (sx_imul (z := 99) xc22_12 (by decide)) ?_
  refine sy_Fs (sx_iadd (z := 101) xc22_13 (by decide)) ?_
  exact sy_Fi xc22_14 xr22 rfl ⟨rfl, rfl⟩
theorem cg_hb4 : sy_D 22 n 0 0 [(0, 4, 0)] w (fun ret w' => ret = [(0, 134, 0)] ∧ w' = w) := by
  refine sy_Dof (us := []) (sy_oks_cons (sy_ok0 (by first | decide | assumption | omega | exact mo_rd_lt _ _ | exact mo_add_lt _ _ | exact mo_sub_lt _ _ | exact mo_mul_lt _ _ | exact mo_shl_lt _ _ | exact mo_ushr_lt _ _ | exact mo_or_lt (by decide) (mo_and_lt (mo_rd_lt _ _)) | exact mo_or_lt (mo_shl_lt _ _) (mo_and_lt (mo_rd_lt _ _)))) sy_oks_nil) rfl rfl ?_
  show sy_F 22 n 0 0 0 [(0, 4, 0)] [] w _
  refine sy_Fs (sy_ildn xc22_0 rfl rfl sy_refl) ?_
  refine sy_Fs (sy_ifne_t (pc' := 8) xc22_1 (by decide) (by decide) (by decide) (by decide) sy_refl) ?_
  refine sy_Fs (sy_iconst (v := 2) xc22_8 (by decide) sy_refl) ?_
  refine sy_Fs (sy_bipush (v := 33) xc22_9 (by decide) (by decide) sy_refl) ?_
  refine sy_Fs (sy_ildn xc22_11 rfl rfl sy_refl) ?_
  refine sy_Fs (sx_imul (z := 132) xc22_12 (by decide)) ?_
  refine sy_Fs (sx_iadd (z := 134) xc22_13 (by decide)) ?_
  exact sy_Fi xc22_14 xr22 rfl ⟨rfl, rfl⟩
theorem cg_bodyN (hw : wh 22 pl w0 w [(0, 1, 13, X0), (0, 8, 11, X1), (3, 6, 40, cbs), (0, 9, 11, X3), (1, 1, 105, Hd), (1, 1, 32, Id), (1, 1, 2, Fi), (3, 7, 4, cps), (0, 10, 6, X8), (1, 1, 28, Pb), (1, 1, 2048, Pl), (0, 11, 19, X11), (3, 6, 60, ckn), (1, 1, 32, Dg), (3, 6, 60, cff), (3, 6, 60, cbf), (1, 1, 2336, Ids), (0, 2, 13, X17), (1, 1, 64, Sp), (1, 0, 64, Sw), (1, 0, 8, Ss), (1, 1, 32, In)]) (hX0 : fh X0 jX [(2, pl 1, 0), (2, pl 10, 0), (2, pl 11, 0)]) (hX1 : fh X1 jM [(0, 1, 0), (2, pl 2, 0)]) (hX3 : fh X3 jB [(2, pl 5, 0), (2, pl 4, 0), (2, pl 6, 0), (0, 2, 0), (0, 1, 0), (2, pl 7, 0)]) (hX8 : fh X8 jP [(2, pl 9, 0)]) (hX11 : fh X11 jU [(2, pl 17, 0), (2, pl 12, 0), (0, 1, 0), (2, pl 13, 0), (2, pl 14, 0), (2, pl 15, 0), (0, stl, 0), (2, pl 16, 0)]) (hX17 : fh X17 jS [(2, pl 18, 0), (2, pl 19, 0), (2, pl 20, 0), (2, pl 21, 0), (0, su, 0), (0, sl, 0)]) (hbs : mv_rd 32 cbs 0 = pl 3 + 1) (hkn : mv_rd 32 ckn 0 = pl 3 + 1) (hff : mv_rd 32 cff 0 = 0) (hbf : mv_rd 32 cbf 0 = 0) (hps : mv_rd 32 cps 0 = pl 8 + 1) (hst : stl < 2) (hsu : su < 64) (hsl : sl < 4294967296) (hbad : mv_rd 32 Pl 0 ≠ 0 ∨ mv_rd 32 Pl 0 = 0 ∧ mv_rd 32 Pl 3 ≠ 1) : sy_D 81 n 1 20 [(2, pl 10, 0), (0, 0, 0), (0, 28, 0)] w (fun ret w' => ret = [(0, 4294967295, 0)] ∧ w' = w) := by
  refine sy_Dof (us := [(255, 0, 0), (255, 0, 0), (255, 0, 0), (255, 0, 0)]) (sy_oks_cons (sy_ok2 (wh_lt hw 10 (by first | decide | assumption))) (sy_oks_cons (sy_ok0 (by first | decide | assumption | omega | exact mo_rd_lt _ _ | exact mo_add_lt _ _ | exact mo_sub_lt _ _ | exact mo_mul_lt _ _ | exact mo_shl_lt _ _ | exact mo_ushr_lt _ _ | exact mo_or_lt (by decide) (mo_and_lt (mo_rd_lt _ _)) | exact mo_or_lt (mo_shl_lt _ _) (mo_and_lt (mo_rd_lt _ _)))) (sy_oks_cons (sy_ok0 (by first | decide | assumption | omega | exact mo_rd_lt _ _ | exact mo_add_lt _ _ | exact mo_sub_lt _ _ | exact mo_mul_lt _ _ | exact mo_shl_lt _ _ | exact mo_ushr_lt _ _ | exact mo_or_lt (by decide) (mo_and_lt (mo_rd_lt _ _)) | exact mo_or_lt (mo_shl_lt _ _) (mo_and_lt (mo_rd_lt _ _)))) sy_oks_nil))) rfl rfl ?_
  show sy_F 81 n 1 20 0 [(2, pl 10, 0), (0, 0, 0), (0, 28, 0), (255, 0, 0), (255, 0, 0), (255, 0, 0), (255, 0, 0)] [] w _
  rcases hbad with h0 | ⟨h0, h3⟩
  · have hl0 := mo_rd_lt Pl 0
    rcases (show 2147483648 ≤ mv_rd 32 Pl 0 ∨ (4 < mv_rd 32 Pl 0 ∧ mv_rd 32 Pl 0 < 2147483648) ∨ mv_rd 32 Pl 0 = 1 ∨ mv_rd 32 Pl 0 = 2 ∨ mv_rd 32 Pl 0 = 3 ∨ mv_rd 32 Pl 0 = 4 by omega) with hn | ⟨h5, hl⟩ | e1 | e2 | e3 | e4
    ·
      refine sy_Fs (sy_ildn xc81_0 rfl rfl sy_refl) ?_
      refine sy_Fs (sy_iflt_f xc81_1 (by decide) (by decide) sy_refl) ?_
      refine sy_Fs (sy_ildn xc81_4 rfl rfl sy_refl) ?_
      refine sy_Fs (sy_ildn xc81_5 rfl rfl sy_refl) ?_
      refine sy_Fs (sy_ge_f xc81_6 (by decide) (by decide) (by decide) sy_refl) ?_
      refine sy_Fs (sy_ildn xc81_9 rfl rfl sy_refl) ?_
      refine sy_Fs (sy_aldn xc81_10 rfl rfl sy_refl) ?_
      refine sy_Fs (sy_alen xc81_11 (wh_at hw 10 rfl) rfl sy_refl) ?_
      refine sy_Fs (sy_icmple_t (pc' := 17) xc81_12 (by decide) (by decide) (by decide) (by decide) sy_refl) ?_
      refine sy_Fs (sy_aldn xc81_17 rfl rfl sy_refl) ?_
      refine sy_Fs (sy_ildn xc81_18 rfl rfl sy_refl) ?_
      refine sy_Fs (sx_bal (z := (mv_rd 32 Pl 0)) xc81_19 (wh_at hw 10 rfl) (by decide) (by decide) rfl) ?_
      refine sy_Fs (sx_istn (j := 3) (ls' := [(2, pl 10, 0), (0, 0, 0), (0, 28, 0), (0, (mv_rd 32 Pl 0), 0), (255, 0, 0), (255, 0, 0), (255, 0, 0)]) xc81_20 rfl rfl (sy_ok0 (by first | decide | assumption | omega | exact mo_rd_lt _ _ | exact mo_add_lt _ _ | exact mo_sub_lt _ _ | exact mo_mul_lt _ _ | exact mo_shl_lt _ _ | exact mo_ushr_lt _ _ | exact mo_or_lt (by decide) (mo_and_lt (mo_rd_lt _ _)) | exact mo_or_lt (mo_shl_lt _ _) (mo_and_lt (mo_rd_lt _ _)))) (by rw [xl81]; rfl) rfl rfl) ?_
      refine sy_Fs (sy_ildn xc81_21 rfl rfl sy_refl) ?_
      refine sy_Fs (sy_iflt_t (pc' := 30) xc81_22 (by decide) hn (mo_rd_lt _ _) (by decide) sy_refl) ?_
      refine sy_Fs (sy_iconst (v := 4294967295) xc81_30 (by decide) sy_refl) ?_
      exact sy_Fi xc81_31 xr81 rfl ⟨rfl, rfl⟩
    ·
      refine sy_Fs (sy_ildn xc81_0 rfl rfl sy_refl) ?_
      refine sy_Fs (sy_iflt_f xc81_1 (by decide) (by decide) sy_refl) ?_
      refine sy_Fs (sy_ildn xc81_4 rfl rfl sy_refl) ?_
      refine sy_Fs (sy_ildn xc81_5 rfl rfl sy_refl) ?_
      refine sy_Fs (sy_ge_f xc81_6 (by decide) (by decide) (by decide) sy_refl) ?_
      refine sy_Fs (sy_ildn xc81_9 rfl rfl sy_refl) ?_
      refine sy_Fs (sy_aldn xc81_10 rfl rfl sy_refl) ?_
      refine sy_Fs (sy_alen xc81_11 (wh_at hw 10 rfl) rfl sy_refl) ?_
      refine sy_Fs (sy_icmple_t (pc' := 17) xc81_12 (by decide) (by decide) (by decide) (by decide) sy_refl) ?_
      refine sy_Fs (sy_aldn xc81_17 rfl rfl sy_refl) ?_
      refine sy_Fs (sy_ildn xc81_18 rfl rfl sy_refl) ?_
      refine sy_Fs (sx_bal (z := (mv_rd 32 Pl 0)) xc81_19 (wh_at hw 10 rfl) (by decide) (by decide) rfl) ?_
      refine sy_Fs (sx_istn (j := 3) (ls' := [(2, pl 10, 0), (0, 0, 0), (0, 28, 0), (0, (mv_rd 32 Pl 0), 0), (255, 0, 0), (255, 0, 0), (255, 0, 0)]) xc81_20 rfl rfl (sy_ok0 (by first | decide | assumption | omega | exact mo_rd_lt _ _ | exact mo_add_lt _ _ | exact mo_sub_lt _ _ | exact mo_mul_lt _ _ | exact mo_shl_lt _ _ | exact mo_ushr_lt _ _ | exact mo_or_lt (by decide) (mo_and_lt (mo_rd_lt _ _)) | exact mo_or_lt (mo_shl_lt _ _) (mo_and_lt (mo_rd_lt _ _)))) (by rw [xl81]; rfl) rfl rfl) ?_
      refine sy_Fs (sy_ildn xc81_21 rfl rfl sy_refl) ?_
      refine sy_Fs (sy_iflt_f xc81_22 (by decide) hl sy_refl) ?_
      refine sy_Fs (sy_ildn xc81_25 rfl rfl sy_refl) ?_
      refine sy_Fs (sy_iconst (v := 4) xc81_26 (by decide) sy_refl) ?_
      refine sy_Fs (sy_icmple_f xc81_27 (by decide) h5 hl sy_refl) ?_
      refine sy_Fs (sy_iconst (v := 4294967295) xc81_30 (by decide) sy_refl) ?_
      exact sy_Fi xc81_31 xr81 rfl ⟨rfl, rfl⟩
    ·
      refine sy_Fs (sy_ildn xc81_0 rfl rfl sy_refl) ?_
      refine sy_Fs (sy_iflt_f xc81_1 (by decide) (by decide) sy_refl) ?_
      refine sy_Fs (sy_ildn xc81_4 rfl rfl sy_refl) ?_
      refine sy_Fs (sy_ildn xc81_5 rfl rfl sy_refl) ?_
      refine sy_Fs (sy_ge_f xc81_6 (by decide) (by decide) (by decide) sy_refl) ?_
      refine sy_Fs (sy_ildn xc81_9 rfl rfl sy_refl) ?_
      refine sy_Fs (sy_aldn xc81_10 rfl rfl sy_refl) ?_
      refine sy_Fs (sy_alen xc81_11 (wh_at hw 10 rfl) rfl sy_refl) ?_
      refine sy_Fs (sy_icmple_t (pc' := 17) xc81_12 (by decide) (by decide) (by decide) (by decide) sy_refl) ?_
      refine sy_Fs (sy_aldn xc81_17 rfl rfl sy_refl) ?_
      refine sy_Fs (sy_ildn xc81_18 rfl rfl sy_refl) ?_
      refine sy_Fs (sx_bal (z := 1) xc81_19 (wh_at hw 10 rfl) (by decide) (by decide) e1) ?_
      refine sy_Fs (sx_istn (j := 3) (ls' := [(2, pl 10, 0), (0, 0, 0), (0, 28, 0), (0, 1, 0), (255, 0, 0), (255, 0, 0), (255, 0, 0)]) xc81_20 rfl rfl (sy_ok0 (by first | decide | assumption | omega | exact mo_rd_lt _ _ | exact mo_add_lt _ _ | exact mo_sub_lt _ _ | exact mo_mul_lt _ _ | exact mo_shl_lt _ _ | exact mo_ushr_lt _ _ | exact mo_or_lt (by decide) (mo_and_lt (mo_rd_lt _ _)) | exact mo_or_lt (mo_shl_lt _ _) (mo_and_lt (mo_rd_lt _ _)))) (by rw [xl81]; rfl) rfl rfl) ?_
      refine sy_Fs (sy_ildn xc81_21 rfl rfl sy_refl) ?_
      refine sy_Fs (sy_iflt_f xc81_22 (by decide) (by decide) sy_refl) ?_
      refine sy_Fs (sy_ildn xc81_25 rfl rfl sy_refl) ?_
      refine sy_Fs (sy_iconst (v := 4) xc81_26 (by decide) sy_refl) ?_
      refine sy_Fs (sy_icmple_t (pc' := 32) xc81_27 (by decide) (by decide) (by decide) (by decide) sy_refl) ?_
      refine sy_Fs (sy_ildn xc81_32 rfl rfl sy_refl) ?_
      refine sy_Fs (sy_callG (kd := 1) (as := [(0, 1, 0)]) (S0 := []) (ret := [(0, 35, 0)]) xc81_33 (sy_calS (as := [(0, 1, 0)]) (S0 := []) xm81_29 rfl rfl) rfl rfl rfl rfl (sy_oka (sy_oks_cons (sy_ok0 (by first | decide | assumption | omega | exact mo_rd_lt _ _ | exact mo_add_lt _ _ | exact mo_sub_lt _ _ | exact mo_mul_lt _ _ | exact mo_shl_lt _ _ | exact mo_ushr_lt _ _ | exact mo_or_lt (by decide) (mo_and_lt (mo_rd_lt _ _)) | exact mo_or_lt (mo_shl_lt _ _) (mo_and_lt (mo_rd_lt _ _)))) sy_oks_nil) rfl xl22) (sy_Cw (cg_hb1 (n := n))) (by decide) (by rw [xl22]; decide) sy_refl) ?_
      refine sy_Fs (sx_ist (j := 4) (ls' := [(2, pl 10, 0), (0, 0, 0), (0, 28, 0), (0, 1, 0), (0, 35, 0), (255, 0, 0), (255, 0, 0)]) xc81_36 rfl (sy_ok0 (by first | decide | assumption | omega | exact mo_rd_lt _ _ | exact mo_add_lt _ _ | exact mo_sub_lt _ _ | exact mo_mul_lt _ _ | exact mo_shl_lt _ _ | exact mo_ushr_lt _ _ | exact mo_or_lt (by decide) (mo_and_lt (mo_rd_lt _ _)) | exact mo_or_lt (mo_shl_lt _ _) (mo_and_lt (mo_rd_lt _ _)))) (by rw [xl81]; rfl) rfl rfl) ?_
      refine sy_Fs (sy_ild xc81_38 rfl rfl sy_refl) ?_
      refine sy_Fs (sy_ildn xc81_40 rfl rfl sy_refl) ?_
      refine sy_Fs (sy_ildn xc81_41 rfl rfl sy_refl) ?_
      refine sy_Fs (sx_isub (z := 28) xc81_42 (by decide)) ?_
      refine sy_Fs (sy_icmple_f xc81_43 (by decide) (by decide) (by decide) sy_refl) ?_
      refine sy_Fs (sy_iconst (v := 4294967295) xc81_46 (by decide) sy_refl) ?_
      exact sy_Fi xc81_47 xr81 rfl ⟨rfl, rfl⟩
    ·
      refine sy_Fs (sy_ildn xc81_0 rfl rfl sy_refl) ?_
      refine sy_Fs (sy_iflt_f xc81_1 (by decide) (by decide) sy_refl) ?_
      refine sy_Fs (sy_ildn xc81_4 rfl rfl sy_refl) ?_
      refine sy_Fs (sy_ildn xc81_5 rfl rfl sy_refl) ?_
      refine sy_Fs (sy_ge_f xc81_6 (by decide) (by decide) (by decide) sy_refl) ?_
      refine sy_Fs (sy_ildn xc81_9 rfl rfl sy_refl) ?_
      refine sy_Fs (sy_aldn xc81_10 rfl rfl sy_refl) ?_
      refine sy_Fs (sy_alen xc81_11 (wh_at hw 10 rfl) rfl sy_refl) ?_
      refine sy_Fs (sy_icmple_t (pc' := 17) xc81_12 (by decide) (by decide) (by decide) (by decide) sy_refl) ?_
      refine sy_Fs (sy_aldn xc81_17 rfl rfl sy_refl) ?_
      refine sy_Fs (sy_ildn xc81_18 rfl rfl sy_refl) ?_
      refine sy_Fs (sx_bal (z := 2) xc81_19 (wh_at hw 10 rfl) (by decide) (by decide) e2) ?_
      refine sy_Fs (sx_istn (j := 3) (ls' := [(2, pl 10, 0), (0, 0, 0), (0, 28, 0), (0, 2, 0), (255, 0, 0), (255, 0, 0), (255, 0, 0)]) xc81_20 rfl rfl (sy_ok0 (by first | decide | assumption | omega | exact mo_rd_lt _ _ | exact mo_add_lt _ _ | exact mo_sub_lt _ _ | exact mo_mul_lt _ _ | exact mo_shl_lt _ _ | exact mo_ushr_lt _ _ | exact mo_or_lt (by decide) (mo_and_lt (mo_rd_lt _ _)) | exact mo_or_lt (mo_shl_lt _ _) (mo_and_lt (mo_rd_lt _ _)))) (by rw [xl81]; rfl) rfl rfl) ?_
      refine sy_Fs (sy_ildn xc81_21 rfl rfl sy_refl) ?_
      refine sy_Fs (sy_iflt_f xc81_22 (by decide) (by decide) sy_refl) ?_
      refine sy_Fs (sy_ildn xc81_25 rfl rfl sy_refl) ?_
      refine sy_Fs (sy_iconst (v := 4) xc81_26 (by decide) sy_refl) ?_
      refine sy_Fs (sy_icmple_t (pc' := 32) xc81_27 (by decide) (by decide) (by decide) (by decide) sy_refl) ?_
      refine sy_Fs (sy_ildn xc81_32 rfl rfl sy_refl) ?_
      refine sy_Fs (sy_callG (kd := 1) (as := [(0, 2, 0)]) (S0 := []) (ret := [(0, 68, 0)]) xc81_33 (sy_calS (as := [(0, 2, 0)]) (S0 := []) xm81_29 rfl rfl) rfl rfl rfl rfl (sy_oka (sy_oks_cons (sy_ok0 (by first | decide | assumption | omega | exact mo_rd_lt _ _ | exact mo_add_lt _ _ | exact mo_sub_lt _ _ | exact mo_mul_lt _ _ | exact mo_shl_lt _ _ | exact mo_ushr_lt _ _ | exact mo_or_lt (by decide) (mo_and_lt (mo_rd_lt _ _)) | exact mo_or_lt (mo_shl_lt _ _) (mo_and_lt (mo_rd_lt _ _)))) sy_oks_nil) rfl xl22) (sy_Cw (cg_hb2 (n := n))) (by decide) (by rw [xl22]; decide) sy_refl) ?_
      refine sy_Fs (sx_ist (j := 4) (ls' := [(2, pl 10, 0), (0, 0, 0), (0, 28, 0), (0, 2, 0), (0, 68, 0), (255, 0, 0), (255, 0, 0)]) xc81_36 rfl (sy_ok0 (by first | decide | assumption | omega | exact mo_rd_lt _ _ | exact mo_add_lt _ _ | exact mo_sub_lt _ _ | exact mo_mul_lt _ _ | exact mo_shl_lt _ _ | exact mo_ushr_lt _ _ | exact mo_or_lt (by decide) (mo_and_lt (mo_rd_lt _ _)) | exact mo_or_lt (mo_shl_lt _ _) (mo_and_lt (mo_rd_lt _ _)))) (by rw [xl81]; rfl) rfl rfl) ?_
      refine sy_Fs (sy_ild xc81_38 rfl rfl sy_refl) ?_
      refine sy_Fs (sy_ildn xc81_40 rfl rfl sy_refl) ?_
      refine sy_Fs (sy_ildn xc81_41 rfl rfl sy_refl) ?_
      refine sy_Fs (sx_isub (z := 28) xc81_42 (by decide)) ?_
      refine sy_Fs (sy_icmple_f xc81_43 (by decide) (by decide) (by decide) sy_refl) ?_
      refine sy_Fs (sy_iconst (v := 4294967295) xc81_46 (by decide) sy_refl) ?_
      exact sy_Fi xc81_47 xr81 rfl ⟨rfl, rfl⟩
    ·
      refine sy_Fs (sy_ildn xc81_0 rfl rfl sy_refl) ?_
      refine sy_Fs (sy_iflt_f xc81_1 (by decide) (by decide) sy_refl) ?_
      refine sy_Fs (sy_ildn xc81_4 rfl rfl sy_refl) ?_
      refine sy_Fs (sy_ildn xc81_5 rfl rfl sy_refl) ?_
      refine sy_Fs (sy_ge_f xc81_6 (by decide) (by decide) (by decide) sy_refl) ?_
      refine sy_Fs (sy_ildn xc81_9 rfl rfl sy_refl) ?_
      refine sy_Fs (sy_aldn xc81_10 rfl rfl sy_refl) ?_
      refine sy_Fs (sy_alen xc81_11 (wh_at hw 10 rfl) rfl sy_refl) ?_
      refine sy_Fs (sy_icmple_t (pc' := 17) xc81_12 (by decide) (by decide) (by decide) (by decide) sy_refl) ?_
      refine sy_Fs (sy_aldn xc81_17 rfl rfl sy_refl) ?_
      refine sy_Fs (sy_ildn xc81_18 rfl rfl sy_refl) ?_
      refine sy_Fs (sx_bal (z := 3) xc81_19 (wh_at hw 10 rfl) (by decide) (by decide) e3) ?_
      refine sy_Fs (sx_istn (j := 3) (ls' := [(2, pl 10, 0), (0, 0, 0), (0, 28, 0), (0, 3, 0), (255, 0, 0), (255, 0, 0), (255, 0, 0)]) xc81_20 rfl rfl (sy_ok0 (by first | decide | assumption | omega | exact mo_rd_lt _ _ | exact mo_add_lt _ _ | exact mo_sub_lt _ _ | exact mo_mul_lt _ _ | exact mo_shl_lt _ _ | exact mo_ushr_lt _ _ | exact mo_or_lt (by decide) (mo_and_lt (mo_rd_lt _ _)) | exact mo_or_lt (mo_shl_lt _ _) (mo_and_lt (mo_rd_lt _ _)))) (by rw [xl81]; rfl) rfl rfl) ?_
      refine sy_Fs (sy_ildn xc81_21 rfl rfl sy_refl) ?_
      refine sy_Fs (sy_iflt_f xc81_22 (by decide) (by decide) sy_refl) ?_
      refine sy_Fs (sy_ildn xc81_25 rfl rfl sy_refl) ?_
      refine sy_Fs (sy_iconst (v := 4) xc81_26 (by decide) sy_refl) ?_
      refine sy_Fs (sy_icmple_t (pc' := 32) xc81_27 (by decide) (by decide) (by decide) (by decide) sy_refl) ?_
      refine sy_Fs (sy_ildn xc81_32 rfl rfl sy_refl) ?_
      refine sy_Fs (sy_callG (kd := 1) (as := [(0, 3, 0)]) (S0 := []) (ret := [(0, 101, 0)]) xc81_33 (sy_calS (as := [(0, 3, 0)]) (S0 := []) xm81_29 rfl rfl) rfl rfl rfl rfl (sy_oka (sy_oks_cons (sy_ok0 (by first | decide | assumption | omega | exact mo_rd_lt _ _ | exact mo_add_lt _ _ | exact mo_sub_lt _ _ | exact mo_mul_lt _ _ | exact mo_shl_lt _ _ | exact mo_ushr_lt _ _ | exact mo_or_lt (by decide) (mo_and_lt (mo_rd_lt _ _)) | exact mo_or_lt (mo_shl_lt _ _) (mo_and_lt (mo_rd_lt _ _)))) sy_oks_nil) rfl xl22) (sy_Cw (cg_hb3 (n := n))) (by decide) (by rw [xl22]; decide) sy_refl) ?_
      refine sy_Fs (sx_ist (j := 4) (ls' := [(2, pl 10, 0), (0, 0, 0), (0, 28, 0), (0, 3, 0), (0, 101, 0), (255, 0, 0), (255, 0, 0)]) xc81_36 rfl (sy_ok0 (by first | decide | assumption | omega | exact mo_rd_lt _ _ | exact mo_add_lt _ _ | exact mo_sub_lt _ _ | exact mo_mul_lt _ _ | exact mo_shl_lt _ _ | exact mo_ushr_lt _ _ | exact mo_or_lt (by decide) (mo_and_lt (mo_rd_lt _ _)) | exact mo_or_lt (mo_shl_lt _ _) (mo_and_lt (mo_rd_lt _ _)))) (by rw [xl81]; rfl) rfl rfl) ?_
      refine sy_Fs (sy_ild xc81_38 rfl rfl sy_refl) ?_
      refine sy_Fs (sy_ildn xc81_40 rfl rfl sy_refl) ?_
      refine sy_Fs (sy_ildn xc81_41 rfl rfl sy_refl) ?_
      refine sy_Fs (sx_isub (z := 28) xc81_42 (by decide)) ?_
      refine sy_Fs (sy_icmple_f xc81_43 (by decide) (by decide) (by decide) sy_refl) ?_
      refine sy_Fs (sy_iconst (v := 4294967295) xc81_46 (by decide) sy_refl) ?_
      exact sy_Fi xc81_47 xr81 rfl ⟨rfl, rfl⟩
    ·
      refine sy_Fs (sy_ildn xc81_0 rfl rfl sy_refl) ?_
      refine sy_Fs (sy_iflt_f xc81_1 (by decide) (by decide) sy_refl) ?_
      refine sy_Fs (sy_ildn xc81_4 rfl rfl sy_refl) ?_
      refine sy_Fs (sy_ildn xc81_5 rfl rfl sy_refl) ?_
      refine sy_Fs (sy_ge_f xc81_6 (by decide) (by decide) (by decide) sy_refl) ?_
      refine sy_Fs (sy_ildn xc81_9 rfl rfl sy_refl) ?_
      refine sy_Fs (sy_aldn xc81_10 rfl rfl sy_refl) ?_
      refine sy_Fs (sy_alen xc81_11 (wh_at hw 10 rfl) rfl sy_refl) ?_
      refine sy_Fs (sy_icmple_t (pc' := 17) xc81_12 (by decide) (by decide) (by decide) (by decide) sy_refl) ?_
      refine sy_Fs (sy_aldn xc81_17 rfl rfl sy_refl) ?_
      refine sy_Fs (sy_ildn xc81_18 rfl rfl sy_refl) ?_
      refine sy_Fs (sx_bal (z := 4) xc81_19 (wh_at hw 10 rfl) (by decide) (by decide) e4) ?_
      refine sy_Fs (sx_istn (j := 3) (ls' := [(2, pl 10, 0), (0, 0, 0), (0, 28, 0), (0, 4, 0), (255, 0, 0), (255, 0, 0), (255, 0, 0)]) xc81_20 rfl rfl (sy_ok0 (by first | decide | assumption | omega | exact mo_rd_lt _ _ | exact mo_add_lt _ _ | exact mo_sub_lt _ _ | exact mo_mul_lt _ _ | exact mo_shl_lt _ _ | exact mo_ushr_lt _ _ | exact mo_or_lt (by decide) (mo_and_lt (mo_rd_lt _ _)) | exact mo_or_lt (mo_shl_lt _ _) (mo_and_lt (mo_rd_lt _ _)))) (by rw [xl81]; rfl) rfl rfl) ?_
      refine sy_Fs (sy_ildn xc81_21 rfl rfl sy_refl) ?_
      refine sy_Fs (sy_iflt_f xc81_22 (by decide) (by decide) sy_refl) ?_
      refine sy_Fs (sy_ildn xc81_25 rfl rfl sy_refl) ?_
      refine sy_Fs (sy_iconst (v := 4) xc81_26 (by decide) sy_refl) ?_
      refine sy_Fs (sy_icmple_t (pc' := 32) xc81_27 (by decide) (by decide) (by decide) (by decide) sy_refl) ?_
      refine sy_Fs (sy_ildn xc81_32 rfl rfl sy_refl) ?_
      refine sy_Fs (sy_callG (kd := 1) (as := [(0, 4, 0)]) (S0 := []) (ret := [(0, 134, 0)]) xc81_33 (sy_calS (as := [(0, 4, 0)]) (S0 := []) xm81_29 rfl rfl) rfl rfl rfl rfl (sy_oka (sy_oks_cons (sy_ok0 (by first | decide | assumption | omega | exact mo_rd_lt _ _ | exact mo_add_lt _ _ | exact mo_sub_lt _ _ | exact mo_mul_lt _ _ | exact mo_shl_lt _ _ | exact mo_ushr_lt _ _ | exact mo_or_lt (by decide) (mo_and_lt (mo_rd_lt _ _)) | exact mo_or_lt (mo_shl_lt _ _) (mo_and_lt (mo_rd_lt _ _)))) sy_oks_nil) rfl xl22) (sy_Cw (cg_hb4 (n := n))) (by decide) (by rw [xl22]; decide) sy_refl) ?_
      refine sy_Fs (sx_ist (j := 4) (ls' := [(2, pl 10, 0), (0, 0, 0), (0, 28, 0), (0, 4, 0), (0, 134, 0), (255, 0, 0), (255, 0, 0)]) xc81_36 rfl (sy_ok0 (by first | decide | assumption | omega | exact mo_rd_lt _ _ | exact mo_add_lt _ _ | exact mo_sub_lt _ _ | exact mo_mul_lt _ _ | exact mo_shl_lt _ _ | exact mo_ushr_lt _ _ | exact mo_or_lt (by decide) (mo_and_lt (mo_rd_lt _ _)) | exact mo_or_lt (mo_shl_lt _ _) (mo_and_lt (mo_rd_lt _ _)))) (by rw [xl81]; rfl) rfl rfl) ?_
      refine sy_Fs (sy_ild xc81_38 rfl rfl sy_refl) ?_
      refine sy_Fs (sy_ildn xc81_40 rfl rfl sy_refl) ?_
      refine sy_Fs (sy_ildn xc81_41 rfl rfl sy_refl) ?_
      refine sy_Fs (sx_isub (z := 28) xc81_42 (by decide)) ?_
      refine sy_Fs (sy_icmple_f xc81_43 (by decide) (by decide) (by decide) sy_refl) ?_
      refine sy_Fs (sy_iconst (v := 4294967295) xc81_46 (by decide) sy_refl) ?_
      exact sy_Fi xc81_47 xr81 rfl ⟨rfl, rfl⟩
  · have hl3 := mo_rd_lt Pl 3
    rcases (show mv_rd 32 Pl 3 = 0 ∨ 2147483648 ≤ mv_rd 32 Pl 3 ∨ (1 < mv_rd 32 Pl 3 ∧ mv_rd 32 Pl 3 < 2147483648) by omega) with z | hn | ⟨h2, hl⟩
    ·
      refine sy_Fs (sy_ildn xc81_0 rfl rfl sy_refl) ?_
      refine sy_Fs (sy_iflt_f xc81_1 (by decide) (by decide) sy_refl) ?_
      refine sy_Fs (sy_ildn xc81_4 rfl rfl sy_refl) ?_
      refine sy_Fs (sy_ildn xc81_5 rfl rfl sy_refl) ?_
      refine sy_Fs (sy_ge_f xc81_6 (by decide) (by decide) (by decide) sy_refl) ?_
      refine sy_Fs (sy_ildn xc81_9 rfl rfl sy_refl) ?_
      refine sy_Fs (sy_aldn xc81_10 rfl rfl sy_refl) ?_
      refine sy_Fs (sy_alen xc81_11 (wh_at hw 10 rfl) rfl sy_refl) ?_
      refine sy_Fs (sy_icmple_t (pc' := 17) xc81_12 (by decide) (by decide) (by decide) (by decide) sy_refl) ?_
      refine sy_Fs (sy_aldn xc81_17 rfl rfl sy_refl) ?_
      refine sy_Fs (sy_ildn xc81_18 rfl rfl sy_refl) ?_
      refine sy_Fs (sx_bal (z := 0) xc81_19 (wh_at hw 10 rfl) (by decide) (by decide) h0) ?_
      refine sy_Fs (sx_istn (j := 3) (ls' := [(2, pl 10, 0), (0, 0, 0), (0, 28, 0), (0, 0, 0), (255, 0, 0), (255, 0, 0), (255, 0, 0)]) xc81_20 rfl rfl (sy_ok0 (by first | decide | assumption | omega | exact mo_rd_lt _ _ | exact mo_add_lt _ _ | exact mo_sub_lt _ _ | exact mo_mul_lt _ _ | exact mo_shl_lt _ _ | exact mo_ushr_lt _ _ | exact mo_or_lt (by decide) (mo_and_lt (mo_rd_lt _ _)) | exact mo_or_lt (mo_shl_lt _ _) (mo_and_lt (mo_rd_lt _ _)))) (by rw [xl81]; rfl) rfl rfl) ?_
      refine sy_Fs (sy_ildn xc81_21 rfl rfl sy_refl) ?_
      refine sy_Fs (sy_iflt_f xc81_22 (by decide) (by decide) sy_refl) ?_
      refine sy_Fs (sy_ildn xc81_25 rfl rfl sy_refl) ?_
      refine sy_Fs (sy_iconst (v := 4) xc81_26 (by decide) sy_refl) ?_
      refine sy_Fs (sy_icmple_t (pc' := 32) xc81_27 (by decide) (by decide) (by decide) (by decide) sy_refl) ?_
      refine sy_Fs (sy_ildn xc81_32 rfl rfl sy_refl) ?_
      refine sy_Fs (sy_callG (kd := 1) (as := [(0, 0, 0)]) (S0 := []) (ret := [(0, 4, 0)]) xc81_33 (sy_calS (as := [(0, 0, 0)]) (S0 := []) xm81_29 rfl rfl) rfl rfl rfl rfl (sy_oka (sy_oks_cons (sy_ok0 (by first | decide | assumption | omega | exact mo_rd_lt _ _ | exact mo_add_lt _ _ | exact mo_sub_lt _ _ | exact mo_mul_lt _ _ | exact mo_shl_lt _ _ | exact mo_ushr_lt _ _ | exact mo_or_lt (by decide) (mo_and_lt (mo_rd_lt _ _)) | exact mo_or_lt (mo_shl_lt _ _) (mo_and_lt (mo_rd_lt _ _)))) sy_oks_nil) rfl xl22) (sy_Cw (cg_hb (n := n) hw hX0 hX1 hX3 hX8 hX11 hX17 hbs hkn hff hbf hps hst hsu hsl)) (by decide) (by rw [xl22]; decide) sy_refl) ?_
      refine sy_Fs (sx_ist (j := 4) (ls' := [(2, pl 10, 0), (0, 0, 0), (0, 28, 0), (0, 0, 0), (0, 4, 0), (255, 0, 0), (255, 0, 0)]) xc81_36 rfl (sy_ok0 (by first | decide | assumption | omega | exact mo_rd_lt _ _ | exact mo_add_lt _ _ | exact mo_sub_lt _ _ | exact mo_mul_lt _ _ | exact mo_shl_lt _ _ | exact mo_ushr_lt _ _ | exact mo_or_lt (by decide) (mo_and_lt (mo_rd_lt _ _)) | exact mo_or_lt (mo_shl_lt _ _) (mo_and_lt (mo_rd_lt _ _)))) (by rw [xl81]; rfl) rfl rfl) ?_
      refine sy_Fs (sy_ild xc81_38 rfl rfl sy_refl) ?_
      refine sy_Fs (sy_ildn xc81_40 rfl rfl sy_refl) ?_
      refine sy_Fs (sy_ildn xc81_41 rfl rfl sy_refl) ?_
      refine sy_Fs (sx_isub (z := 28) xc81_42 (by decide)) ?_
      refine sy_Fs (sy_icmple_t (pc' := 48) xc81_43 (by decide) (by decide) (by decide) (by decide) sy_refl) ?_
      refine sy_Fs (sy_aldn xc81_48 rfl rfl sy_refl) ?_
      refine sy_Fs (sy_ildn xc81_49 rfl rfl sy_refl) ?_
      refine sy_Fs (sy_ild xc81_50 rfl rfl sy_refl) ?_
      refine sy_Fs (sx_iadd (z := 4) xc81_52 (by decide)) ?_
      refine sy_Fs (sy_iconst (v := 1) xc81_53 (by decide) sy_refl) ?_
      refine sy_Fs (sx_isub (z := 3) xc81_54 (by decide)) ?_
      refine sy_Fs (sx_bal (z := 0) xc81_55 (wh_at hw 10 rfl) (by decide) (by decide) z) ?_
      refine sy_Fs (sx_ist (j := 5) (ls' := [(2, pl 10, 0), (0, 0, 0), (0, 28, 0), (0, 0, 0), (0, 4, 0), (0, 0, 0), (255, 0, 0)]) xc81_56 rfl (sy_ok0 (by first | decide | assumption | omega | exact mo_rd_lt _ _ | exact mo_add_lt _ _ | exact mo_sub_lt _ _ | exact mo_mul_lt _ _ | exact mo_shl_lt _ _ | exact mo_ushr_lt _ _ | exact mo_or_lt (by decide) (mo_and_lt (mo_rd_lt _ _)) | exact mo_or_lt (mo_shl_lt _ _) (mo_and_lt (mo_rd_lt _ _)))) (by rw [xl81]; rfl) rfl rfl) ?_
      refine sy_Fs (sy_ild xc81_58 rfl rfl sy_refl) ?_
      refine sy_Fs (sy_iconst (v := 1) xc81_60 (by decide) sy_refl) ?_
      refine sy_Fs (sy_icmplt_t (pc' := 78) xc81_61 (by decide) (by decide) (by decide) (by decide) sy_refl) ?_
      refine sy_Fs (sy_iconst (v := 4294967295) xc81_78 (by decide) sy_refl) ?_
      exact sy_Fi xc81_79 xr81 rfl ⟨rfl, rfl⟩
    ·
      refine sy_Fs (sy_ildn xc81_0 rfl rfl sy_refl) ?_
      refine sy_Fs (sy_iflt_f xc81_1 (by decide) (by decide) sy_refl) ?_
      refine sy_Fs (sy_ildn xc81_4 rfl rfl sy_refl) ?_
      refine sy_Fs (sy_ildn xc81_5 rfl rfl sy_refl) ?_
      refine sy_Fs (sy_ge_f xc81_6 (by decide) (by decide) (by decide) sy_refl) ?_
      refine sy_Fs (sy_ildn xc81_9 rfl rfl sy_refl) ?_
      refine sy_Fs (sy_aldn xc81_10 rfl rfl sy_refl) ?_
      refine sy_Fs (sy_alen xc81_11 (wh_at hw 10 rfl) rfl sy_refl) ?_
      refine sy_Fs (sy_icmple_t (pc' := 17) xc81_12 (by decide) (by decide) (by decide) (by decide) sy_refl) ?_
      refine sy_Fs (sy_aldn xc81_17 rfl rfl sy_refl) ?_
      refine sy_Fs (sy_ildn xc81_18 rfl rfl sy_refl) ?_
      refine sy_Fs (sx_bal (z := 0) xc81_19 (wh_at hw 10 rfl) (by decide) (by decide) h0) ?_
      refine sy_Fs (sx_istn (j := 3) (ls' := [(2, pl 10, 0), (0, 0, 0), (0, 28, 0), (0, 0, 0), (255, 0, 0), (255, 0, 0), (255, 0, 0)]) xc81_20 rfl rfl (sy_ok0 (by first | decide | assumption | omega | exact mo_rd_lt _ _ | exact mo_add_lt _ _ | exact mo_sub_lt _ _ | exact mo_mul_lt _ _ | exact mo_shl_lt _ _ | exact mo_ushr_lt _ _ | exact mo_or_lt (by decide) (mo_and_lt (mo_rd_lt _ _)) | exact mo_or_lt (mo_shl_lt _ _) (mo_and_lt (mo_rd_lt _ _)))) (by rw [xl81]; rfl) rfl rfl) ?_
      refine sy_Fs (sy_ildn xc81_21 rfl rfl sy_refl) ?_
      refine sy_Fs (sy_iflt_f xc81_22 (by decide) (by decide) sy_refl) ?_
      refine sy_Fs (sy_ildn xc81_25 rfl rfl sy_refl) ?_
      refine sy_Fs (sy_iconst (v := 4) xc81_26 (by decide) sy_refl) ?_
      refine sy_Fs (sy_icmple_t (pc' := 32) xc81_27 (by decide) (by decide) (by decide) (by decide) sy_refl) ?_
      refine sy_Fs (sy_ildn xc81_32 rfl rfl sy_refl) ?_
      refine sy_Fs (sy_callG (kd := 1) (as := [(0, 0, 0)]) (S0 := []) (ret := [(0, 4, 0)]) xc81_33 (sy_calS (as := [(0, 0, 0)]) (S0 := []) xm81_29 rfl rfl) rfl rfl rfl rfl (sy_oka (sy_oks_cons (sy_ok0 (by first | decide | assumption | omega | exact mo_rd_lt _ _ | exact mo_add_lt _ _ | exact mo_sub_lt _ _ | exact mo_mul_lt _ _ | exact mo_shl_lt _ _ | exact mo_ushr_lt _ _ | exact mo_or_lt (by decide) (mo_and_lt (mo_rd_lt _ _)) | exact mo_or_lt (mo_shl_lt _ _) (mo_and_lt (mo_rd_lt _ _)))) sy_oks_nil) rfl xl22) (sy_Cw (cg_hb (n := n) hw hX0 hX1 hX3 hX8 hX11 hX17 hbs hkn hff hbf hps hst hsu hsl)) (by decide) (by rw [xl22]; decide) sy_refl) ?_
      refine sy_Fs (sx_ist (j := 4) (ls' := [(2, pl 10, 0), (0, 0, 0), (0, 28, 0), (0, 0, 0), (0, 4, 0), (255, 0, 0), (255, 0, 0)]) xc81_36 rfl (sy_ok0 (by first | decide | assumption | omega | exact mo_rd_lt _ _ | exact mo_add_lt _ _ | exact mo_sub_lt _ _ | exact mo_mul_lt _ _ | exact mo_shl_lt _ _ | exact mo_ushr_lt _ _ | exact mo_or_lt (by decide) (mo_and_lt (mo_rd_lt _ _)) | exact mo_or_lt (mo_shl_lt _ _) (mo_and_lt (mo_rd_lt _ _)))) (by rw [xl81]; rfl) rfl rfl) ?_
      refine sy_Fs (sy_ild xc81_38 rfl rfl sy_refl) ?_
      refine sy_Fs (sy_ildn xc81_40 rfl rfl sy_refl) ?_
      refine sy_Fs (sy_ildn xc81_41 rfl rfl sy_refl) ?_
      refine sy_Fs (sx_isub (z := 28) xc81_42 (by decide)) ?_
      refine sy_Fs (sy_icmple_t (pc' := 48) xc81_43 (by decide) (by decide) (by decide) (by decide) sy_refl) ?_
      refine sy_Fs (sy_aldn xc81_48 rfl rfl sy_refl) ?_
      refine sy_Fs (sy_ildn xc81_49 rfl rfl sy_refl) ?_
      refine sy_Fs (sy_ild xc81_50 rfl rfl sy_refl) ?_
      refine sy_Fs (sx_iadd (z := 4) xc81_52 (by decide)) ?_
      refine sy_Fs (sy_iconst (v := 1) xc81_53 (by decide) sy_refl) ?_
      refine sy_Fs (sx_isub (z := 3) xc81_54 (by decide)) ?_
      refine sy_Fs (sx_bal (z := (mv_rd 32 Pl 3)) xc81_55 (wh_at hw 10 rfl) (by decide) (by decide) rfl) ?_
      refine sy_Fs (sx_ist (j := 5) (ls' := [(2, pl 10, 0), (0, 0, 0), (0, 28, 0), (0, 0, 0), (0, 4, 0), (0, (mv_rd 32 Pl 3), 0), (255, 0, 0)]) xc81_56 rfl (sy_ok0 (by first | decide | assumption | omega | exact mo_rd_lt _ _ | exact mo_add_lt _ _ | exact mo_sub_lt _ _ | exact mo_mul_lt _ _ | exact mo_shl_lt _ _ | exact mo_ushr_lt _ _ | exact mo_or_lt (by decide) (mo_and_lt (mo_rd_lt _ _)) | exact mo_or_lt (mo_shl_lt _ _) (mo_and_lt (mo_rd_lt _ _)))) (by rw [xl81]; rfl) rfl rfl) ?_
      refine sy_Fs (sy_ild xc81_58 rfl rfl sy_refl) ?_
      refine sy_Fs (sy_iconst (v := 1) xc81_60 (by decide) sy_refl) ?_
      refine sy_Fs (sx_ltn_t (pc' := 78) xc81_61 (by decide) hn (mo_rd_lt _ _) (by decide) (by decide) sy_refl) ?_
      refine sy_Fs (sy_iconst (v := 4294967295) xc81_78 (by decide) sy_refl) ?_
      exact sy_Fi xc81_79 xr81 rfl ⟨rfl, rfl⟩
    ·
      refine sy_Fs (sy_ildn xc81_0 rfl rfl sy_refl) ?_
      refine sy_Fs (sy_iflt_f xc81_1 (by decide) (by decide) sy_refl) ?_
      refine sy_Fs (sy_ildn xc81_4 rfl rfl sy_refl) ?_
      refine sy_Fs (sy_ildn xc81_5 rfl rfl sy_refl) ?_
      refine sy_Fs (sy_ge_f xc81_6 (by decide) (by decide) (by decide) sy_refl) ?_
      refine sy_Fs (sy_ildn xc81_9 rfl rfl sy_refl) ?_
      refine sy_Fs (sy_aldn xc81_10 rfl rfl sy_refl) ?_
      refine sy_Fs (sy_alen xc81_11 (wh_at hw 10 rfl) rfl sy_refl) ?_
      refine sy_Fs (sy_icmple_t (pc' := 17) xc81_12 (by decide) (by decide) (by decide) (by decide) sy_refl) ?_
      refine sy_Fs (sy_aldn xc81_17 rfl rfl sy_refl) ?_
      refine sy_Fs (sy_ildn xc81_18 rfl rfl sy_refl) ?_
      refine sy_Fs (sx_bal (z := 0) xc81_19 (wh_at hw 10 rfl) (by decide) (by decide) h0) ?_
      refine sy_Fs (sx_istn (j := 3) (ls' := [(2, pl 10, 0), (0, 0, 0), (0, 28, 0), (0, 0, 0), (255, 0, 0), (255, 0, 0), (255, 0, 0)]) xc81_20 rfl rfl (sy_ok0 (by first | decide | assumption | omega | exact mo_rd_lt _ _ | exact mo_add_lt _ _ | exact mo_sub_lt _ _ | exact mo_mul_lt _ _ | exact mo_shl_lt _ _ | exact mo_ushr_lt _ _ | exact mo_or_lt (by decide) (mo_and_lt (mo_rd_lt _ _)) | exact mo_or_lt (mo_shl_lt _ _) (mo_and_lt (mo_rd_lt _ _)))) (by rw [xl81]; rfl) rfl rfl) ?_
      refine sy_Fs (sy_ildn xc81_21 rfl rfl sy_refl) ?_
      refine sy_Fs (sy_iflt_f xc81_22 (by decide) (by decide) sy_refl) ?_
      refine sy_Fs (sy_ildn xc81_25 rfl rfl sy_refl) ?_
      refine sy_Fs (sy_iconst (v := 4) xc81_26 (by decide) sy_refl) ?_
      refine sy_Fs (sy_icmple_t (pc' := 32) xc81_27 (by decide) (by decide) (by decide) (by decide) sy_refl) ?_
      refine sy_Fs (sy_ildn xc81_32 rfl rfl sy_refl) ?_
      refine sy_Fs (sy_callG (kd := 1) (as := [(0, 0, 0)]) (S0 := []) (ret := [(0, 4, 0)]) xc81_33 (sy_calS (as := [(0, 0, 0)]) (S0 := []) xm81_29 rfl rfl) rfl rfl rfl rfl (sy_oka (sy_oks_cons (sy_ok0 (by first | decide | assumption | omega | exact mo_rd_lt _ _ | exact mo_add_lt _ _ | exact mo_sub_lt _ _ | exact mo_mul_lt _ _ | exact mo_shl_lt _ _ | exact mo_ushr_lt _ _ | exact mo_or_lt (by decide) (mo_and_lt (mo_rd_lt _ _)) | exact mo_or_lt (mo_shl_lt _ _) (mo_and_lt (mo_rd_lt _ _)))) sy_oks_nil) rfl xl22) (sy_Cw (cg_hb (n := n) hw hX0 hX1 hX3 hX8 hX11 hX17 hbs hkn hff hbf hps hst hsu hsl)) (by decide) (by rw [xl22]; decide) sy_refl) ?_
      refine sy_Fs (sx_ist (j := 4) (ls' := [(2, pl 10, 0), (0, 0, 0), (0, 28, 0), (0, 0, 0), (0, 4, 0), (255, 0, 0), (255, 0, 0)]) xc81_36 rfl (sy_ok0 (by first | decide | assumption | omega | exact mo_rd_lt _ _ | exact mo_add_lt _ _ | exact mo_sub_lt _ _ | exact mo_mul_lt _ _ | exact mo_shl_lt _ _ | exact mo_ushr_lt _ _ | exact mo_or_lt (by decide) (mo_and_lt (mo_rd_lt _ _)) | exact mo_or_lt (mo_shl_lt _ _) (mo_and_lt (mo_rd_lt _ _)))) (by rw [xl81]; rfl) rfl rfl) ?_
      refine sy_Fs (sy_ild xc81_38 rfl rfl sy_refl) ?_
      refine sy_Fs (sy_ildn xc81_40 rfl rfl sy_refl) ?_
      refine sy_Fs (sy_ildn xc81_41 rfl rfl sy_refl) ?_
      refine sy_Fs (sx_isub (z := 28) xc81_42 (by decide)) ?_
      refine sy_Fs (sy_icmple_t (pc' := 48) xc81_43 (by decide) (by decide) (by decide) (by decide) sy_refl) ?_
      refine sy_Fs (sy_aldn xc81_48 rfl rfl sy_refl) ?_
      refine sy_Fs (sy_ildn xc81_49 rfl rfl sy_refl) ?_
      refine sy_Fs (sy_ild xc81_50 rfl rfl sy_refl) ?_
      refine sy_Fs (sx_iadd (z := 4) xc81_52 (by decide)) ?_
      refine sy_Fs (sy_iconst (v := 1) xc81_53 (by decide) sy_refl) ?_
      refine sy_Fs (sx_isub (z := 3) xc81_54 (by decide)) ?_
      refine sy_Fs (sx_bal (z := (mv_rd 32 Pl 3)) xc81_55 (wh_at hw 10 rfl) (by decide) (by decide) rfl) ?_
      refine sy_Fs (sx_ist (j := 5) (ls' := [(2, pl 10, 0), (0, 0, 0), (0, 28, 0), (0, 0, 0), (0, 4, 0), (0, (mv_rd 32 Pl 3), 0), (255, 0, 0)]) xc81_56 rfl (sy_ok0 (by first | decide | assumption | omega | exact mo_rd_lt _ _ | exact mo_add_lt _ _ | exact mo_sub_lt _ _ | exact mo_mul_lt _ _ | exact mo_shl_lt _ _ | exact mo_ushr_lt _ _ | exact mo_or_lt (by decide) (mo_and_lt (mo_rd_lt _ _)) | exact mo_or_lt (mo_shl_lt _ _) (mo_and_lt (mo_rd_lt _ _)))) (by rw [xl81]; rfl) rfl rfl) ?_
      refine sy_Fs (sy_ild xc81_58 rfl rfl sy_refl) ?_
      refine sy_Fs (sy_iconst (v := 1) xc81_60 (by decide) sy_refl) ?_
      refine sy_Fs (sy_icmplt_f xc81_61 (by decide) (by omega) hl sy_refl) ?_
      refine sy_Fs (sy_ild xc81_64 rfl rfl sy_refl) ?_
      refine sy_Fs (sy_ildn xc81_66 rfl rfl sy_refl) ?_
      refine sy_Fs (sy_ifne_f xc81_67 (by decide) (by decide) sy_refl) ?_
      refine sy_Fs (sy_iconst (v := 1) xc81_70 (by decide) sy_refl) ?_
      refine sy_Fs (sy_goto (pc' := 75) xc81_71 (by decide) (by decide) sy_refl) ?_
      refine sy_Fs (sy_icmple_f xc81_75 (by decide) (by omega) hl sy_refl) ?_
      refine sy_Fs (sy_iconst (v := 4294967295) xc81_78 (by decide) sy_refl) ?_
      exact sy_Fi xc81_79 xr81 rfl ⟨rfl, rfl⟩
theorem cg_idsN (hw : wh 22 pl w0 w [(0, 1, 13, X0), (0, 8, 11, X1), (3, 6, 40, cbs), (0, 9, 11, X3), (1, 1, 105, Hd), (1, 1, 32, Id), (1, 1, 2, Fi), (3, 7, 4, cps), (0, 10, 6, X8), (1, 1, 28, Pb), (1, 1, 2048, Pl), (0, 11, 19, X11), (3, 6, 60, ckn), (1, 1, 32, Dg), (3, 6, 60, cff), (3, 6, 60, cbf), (1, 1, 2336, Ids), (0, 2, 13, X17), (1, 1, 64, Sp), (1, 0, 64, Sw), (1, 0, 8, Ss), (1, 1, 32, In)]) (hX0 : fh X0 jX [(2, pl 1, 0), (2, pl 10, 0), (2, pl 11, 0)]) (hX1 : fh X1 jM [(0, 1, 0), (2, pl 2, 0)]) (hX3 : fh X3 jB [(2, pl 5, 0), (2, pl 4, 0), (2, pl 6, 0), (0, 2, 0), (0, 1, 0), (2, pl 7, 0)]) (hX8 : fh X8 jP [(2, pl 9, 0)]) (hX11 : fh X11 jU [(2, pl 17, 0), (2, pl 12, 0), (0, 1, 0), (2, pl 13, 0), (2, pl 14, 0), (2, pl 15, 0), (0, stl, 0), (2, pl 16, 0)]) (hX17 : fh X17 jS [(2, pl 18, 0), (2, pl 19, 0), (2, pl 20, 0), (2, pl 21, 0), (0, su, 0), (0, sl, 0)]) (hbs : mv_rd 32 cbs 0 = pl 3 + 1) (hkn : mv_rd 32 ckn 0 = pl 3 + 1) (hff : mv_rd 32 cff 0 = 0) (hbf : mv_rd 32 cbf 0 = 0) (hps : mv_rd 32 cps 0 = pl 8 + 1) (hst : stl < 2) (hsu : su < 64) (hsl : sl < 4294967296) (hbad : mv_rd 32 Pl 0 ≠ 0 ∨ mv_rd 32 Pl 0 = 0 ∧ mv_rd 32 Pl 3 ≠ 1) : sy_D 80 n 2 46 [(2, pl 11, 0), (2, pl 10, 0), (0, 28, 0)] w (fun ret w' => ret = [(0, 4294967295, 0)] ∧ w' = w) := by
  refine sy_Dof (us := [(255, 0, 0), (255, 0, 0), (255, 0, 0)]) (sy_oks_cons (sy_ok2 (wh_lt hw 11 (by first | decide | assumption))) (sy_oks_cons (sy_ok2 (wh_lt hw 10 (by first | decide | assumption))) (sy_oks_cons (sy_ok0 (by first | decide | assumption | omega | exact mo_rd_lt _ _ | exact mo_add_lt _ _ | exact mo_sub_lt _ _ | exact mo_mul_lt _ _ | exact mo_shl_lt _ _ | exact mo_ushr_lt _ _ | exact mo_or_lt (by decide) (mo_and_lt (mo_rd_lt _ _)) | exact mo_or_lt (mo_shl_lt _ _) (mo_and_lt (mo_rd_lt _ _)))) sy_oks_nil))) rfl rfl ?_
  show sy_F 80 n 2 46 0 [(2, pl 11, 0), (2, pl 10, 0), (0, 28, 0), (255, 0, 0), (255, 0, 0), (255, 0, 0)] [] w _
  refine sy_Fs (sy_iconst (v := 0) xc80_0 (by decide) sy_refl) ?_
  refine sy_Fs (sx_istn (j := 3) (ls' := [(2, pl 11, 0), (2, pl 10, 0), (0, 28, 0), (0, 0, 0), (255, 0, 0), (255, 0, 0)]) xc80_1 rfl rfl (sy_ok0 (by first | decide | assumption | omega | exact mo_rd_lt _ _ | exact mo_add_lt _ _ | exact mo_sub_lt _ _ | exact mo_mul_lt _ _ | exact mo_shl_lt _ _ | exact mo_ushr_lt _ _ | exact mo_or_lt (by decide) (mo_and_lt (mo_rd_lt _ _)) | exact mo_or_lt (mo_shl_lt _ _) (mo_and_lt (mo_rd_lt _ _)))) (by rw [xl80]; rfl) rfl rfl) ?_
  refine sy_Fs (sy_iconst (v := 0) xc80_2 (by decide) sy_refl) ?_
  refine sy_Fs (sx_ist (j := 4) (ls' := [(2, pl 11, 0), (2, pl 10, 0), (0, 28, 0), (0, 0, 0), (0, 0, 0), (255, 0, 0)]) xc80_3 rfl (sy_ok0 (by first | decide | assumption | omega | exact mo_rd_lt _ _ | exact mo_add_lt _ _ | exact mo_sub_lt _ _ | exact mo_mul_lt _ _ | exact mo_shl_lt _ _ | exact mo_ushr_lt _ _ | exact mo_or_lt (by decide) (mo_and_lt (mo_rd_lt _ _)) | exact mo_or_lt (mo_shl_lt _ _) (mo_and_lt (mo_rd_lt _ _)))) (by rw [xl80]; rfl) rfl rfl) ?_
  refine sy_Fs (sy_ildn xc80_5 rfl rfl sy_refl) ?_
  refine sy_Fs (sy_bipush (v := 73) xc80_6 (by decide) (by decide) sy_refl) ?_
  refine sy_Fs (sy_ge_f xc80_8 (by decide) (by decide) (by decide) sy_refl) ?_
  refine sy_Fs (sy_ild xc80_11 rfl rfl sy_refl) ?_
  refine sy_Fs (sy_ildn xc80_13 rfl rfl sy_refl) ?_
  refine sy_Fs (sy_ge_f xc80_14 (by decide) (by decide) (by decide) sy_refl) ?_
  refine sy_Fs (sy_aldn xc80_17 rfl rfl sy_refl) ?_
  refine sy_Fs (sy_ild xc80_18 rfl rfl sy_refl) ?_
  refine sy_Fs (sy_ildn xc80_20 rfl rfl sy_refl) ?_
  refine sy_Fs (sy_callG (kd := 1) (as := [(2, pl 10, 0), (0, 0, 0), (0, 28, 0)]) (S0 := []) (ret := [(0, 4294967295, 0)]) xc80_21 (sy_calS (as := [(2, pl 10, 0), (0, 0, 0), (0, 28, 0)]) (S0 := []) xm80_134 rfl rfl) rfl rfl rfl rfl (sy_oka (sy_oks_cons (sy_ok2 (wh_lt hw 10 (by first | decide | assumption))) (sy_oks_cons (sy_ok0 (by first | decide | assumption | omega | exact mo_rd_lt _ _ | exact mo_add_lt _ _ | exact mo_sub_lt _ _ | exact mo_mul_lt _ _ | exact mo_shl_lt _ _ | exact mo_ushr_lt _ _ | exact mo_or_lt (by decide) (mo_and_lt (mo_rd_lt _ _)) | exact mo_or_lt (mo_shl_lt _ _) (mo_and_lt (mo_rd_lt _ _)))) (sy_oks_cons (sy_ok0 (by first | decide | assumption | omega | exact mo_rd_lt _ _ | exact mo_add_lt _ _ | exact mo_sub_lt _ _ | exact mo_mul_lt _ _ | exact mo_shl_lt _ _ | exact mo_ushr_lt _ _ | exact mo_or_lt (by decide) (mo_and_lt (mo_rd_lt _ _)) | exact mo_or_lt (mo_shl_lt _ _) (mo_and_lt (mo_rd_lt _ _)))) sy_oks_nil))) rfl xl81) (sy_Cw (cg_bodyN (n := n) hw hX0 hX1 hX3 hX8 hX11 hX17 hbs hkn hff hbf hps hst hsu hsl hbad)) (by decide) (by rw [xl81]; decide) sy_refl) ?_
  refine sy_Fs (sx_ist (j := 5) (ls' := [(2, pl 11, 0), (2, pl 10, 0), (0, 28, 0), (0, 0, 0), (0, 0, 0), (0, 4294967295, 0)]) xc80_24 rfl (sy_ok0 (by first | decide | assumption | omega | exact mo_rd_lt _ _ | exact mo_add_lt _ _ | exact mo_sub_lt _ _ | exact mo_mul_lt _ _ | exact mo_shl_lt _ _ | exact mo_ushr_lt _ _ | exact mo_or_lt (by decide) (mo_and_lt (mo_rd_lt _ _)) | exact mo_or_lt (mo_shl_lt _ _) (mo_and_lt (mo_rd_lt _ _)))) (by rw [xl80]; rfl) rfl rfl) ?_
  refine sy_Fs (sy_ild xc80_26 rfl rfl sy_refl) ?_
  refine sy_Fs (sy_ifge_f xc80_28 (by decide) (by decide) (by decide) sy_refl) ?_
  refine sy_Fs (sy_iconst (v := 4294967295) xc80_31 (by decide) sy_refl) ?_
  exact sy_Fi xc80_32 xr80 rfl ⟨rfl, rfl⟩
theorem cg_blkN (hw : wh 22 pl w0 w [(0, 1, 13, X0), (0, 8, 11, X1), (3, 6, 40, cbs), (0, 9, 11, X3), (1, 1, 105, Hd), (1, 1, 32, Id), (1, 1, 2, Fi), (3, 7, 4, cps), (0, 10, 6, X8), (1, 1, 28, Pb), (1, 1, 2048, Pl), (0, 11, 19, X11), (3, 6, 60, ckn), (1, 1, 32, Dg), (3, 6, 60, cff), (3, 6, 60, cbf), (1, 1, 2336, Ids), (0, 2, 13, X17), (1, 1, 64, Sp), (1, 0, 64, Sw), (1, 0, 8, Ss), (1, 1, 32, In)]) (hX0 : fh X0 jX [(2, pl 1, 0), (2, pl 10, 0), (2, pl 11, 0)]) (hX1 : fh X1 jM [(0, 1, 0), (2, pl 2, 0)]) (hX3 : fh X3 jB [(2, pl 5, 0), (2, pl 4, 0), (2, pl 6, 0), (0, 2, 0), (0, 1, 0), (2, pl 7, 0)]) (hX8 : fh X8 jP [(2, pl 9, 0)]) (hX11 : fh X11 jU [(2, pl 17, 0), (2, pl 12, 0), (0, 1, 0), (2, pl 13, 0), (2, pl 14, 0), (2, pl 15, 0), (0, stl, 0), (2, pl 16, 0)]) (hX17 : fh X17 jS [(2, pl 18, 0), (2, pl 19, 0), (2, pl 20, 0), (2, pl 21, 0), (0, su, 0), (0, sl, 0)]) (hbs : mv_rd 32 cbs 0 = pl 3 + 1) (hkn : mv_rd 32 ckn 0 = pl 3 + 1) (hff : mv_rd 32 cff 0 = 0) (hbf : mv_rd 32 cbf 0 = 0) (hps : mv_rd 32 cps 0 = pl 8 + 1) (hst : stl < 2) (hsu : su < 64) (hsl : sl < 4294967296) (hbad : mv_rd 32 Pl 0 ≠ 0 ∨ mv_rd 32 Pl 0 = 0 ∧ mv_rd 32 Pl 3 ≠ 1) : sy_D 79 n 3 71 [(2, pl 11, 0), (2, pl 3, 0), (2, pl 10, 0), (0, 28, 0)] w (fun ret w' => ret = [(0, 0, 0)] ∧ ∃ cs, wh 22 pl w0 w' cs) := by
  have eI : gv_fk Id Id 0 = 0 := by unfold gv_fk; rw [sb_refl]; rfl
  refine sy_Dof (us := [(255, 0, 0), (255, 0, 0)]) (sy_oks_cons (sy_ok2 (wh_lt hw 11 (by first | decide | assumption))) (sy_oks_cons (sy_ok2 (wh_lt hw 3 (by first | decide | assumption))) (sy_oks_cons (sy_ok2 (wh_lt hw 10 (by first | decide | assumption))) (sy_oks_cons (sy_ok0 (by first | decide | assumption | omega | exact mo_rd_lt _ _ | exact mo_add_lt _ _ | exact mo_sub_lt _ _ | exact mo_mul_lt _ _ | exact mo_shl_lt _ _ | exact mo_ushr_lt _ _ | exact mo_or_lt (by decide) (mo_and_lt (mo_rd_lt _ _)) | exact mo_or_lt (mo_shl_lt _ _) (mo_and_lt (mo_rd_lt _ _)))) sy_oks_nil)))) rfl rfl ?_
  show sy_F 79 n 3 71 0 [(2, pl 11, 0), (2, pl 3, 0), (2, pl 10, 0), (0, 28, 0), (255, 0, 0), (255, 0, 0)] [] w _
  refine sy_Fs (sy_aldn xc79_0 rfl rfl sy_refl) ?_
  refine sy_Fs (sy_nnl_t (pc' := 8) xc79_1 (by decide) (by decide) sy_refl) ?_
  refine sy_Fs (sy_aldn xc79_8 rfl rfl sy_refl) ?_
  refine sy_Fs (sy_aldn xc79_9 rfl rfl sy_refl) ?_
  refine sy_Fs (sy_gf xc79_10 xf79_76 rfl (wh_at hw 3 rfl) rfl (fh_at hX3 0 rfl rfl) sy_refl) ?_
  refine sy_Fs (sy_iconst (v := 0) xc79_13 (by decide) sy_refl) ?_
  refine sy_Fs (sy_callG (kd := 3) (as := [(2, pl 11, 0), (2, pl 5, 0), (0, 0, 0)]) (S0 := []) (ret := [(0, (gv_fk Id Id 0), 0)]) xc79_14 (sy_calV (as := [(2, pl 11, 0), (2, pl 5, 0), (0, 0, 0)]) (S0 := []) xm79_89 rfl rfl) rfl rfl (sy_rcvm xi76 (wh_at hw 11 rfl)) rfl (sy_oka (sy_oks_cons (sy_ok2 (wh_lt hw 11 (by first | decide | assumption))) (sy_oks_cons (sy_ok2 (wh_lt hw 5 (by first | decide | assumption))) (sy_oks_cons (sy_ok0 (by first | decide | assumption | omega | exact mo_rd_lt _ _ | exact mo_add_lt _ _ | exact mo_sub_lt _ _ | exact mo_mul_lt _ _ | exact mo_shl_lt _ _ | exact mo_ushr_lt _ _ | exact mo_or_lt (by decide) (mo_and_lt (mo_rd_lt _ _)) | exact mo_or_lt (mo_shl_lt _ _) (mo_and_lt (mo_rd_lt _ _)))) sy_oks_nil))) rfl xl76) (gv_find (wh_lt hw 11 (by first | decide | assumption)) (wh_lt hw 5 (by first | decide | assumption)) (wh_lt hw 5 (by first | decide | assumption)) (wh_at hw 11 rfl) (fh_at hX11 2 rfl rfl) (fh_at hX11 1 rfl rfl) (wh_at hw 12 rfl) hkn (wh_at hw 3 rfl) (fh_at hX3 0 rfl rfl) (wh_at hw 5 rfl) (wh_at hw 5 rfl) (by first | decide | assumption | omega) (by first | decide | assumption | omega)) (by decide) (by rw [xl76]; decide) sy_refl) ?_
  rw [eI]
  refine sy_Fs (sx_ist (j := 4) (ls' := [(2, pl 11, 0), (2, pl 3, 0), (2, pl 10, 0), (0, 28, 0), (0, 0, 0), (255, 0, 0)]) xc79_17 rfl (sy_ok0 (by first | decide | assumption | omega | exact mo_rd_lt _ _ | exact mo_add_lt _ _ | exact mo_sub_lt _ _ | exact mo_mul_lt _ _ | exact mo_shl_lt _ _ | exact mo_ushr_lt _ _ | exact mo_or_lt (by decide) (mo_and_lt (mo_rd_lt _ _)) | exact mo_or_lt (mo_shl_lt _ _) (mo_and_lt (mo_rd_lt _ _)))) (by rw [xl79]; rfl) rfl rfl) ?_
  refine sy_Fs (sy_ild xc79_19 rfl rfl sy_refl) ?_
  refine sy_Fs (sy_ifge_t (pc' := 26) xc79_21 (by decide) (by decide) (by decide) sy_refl) ?_
  refine sy_Fs (sy_aldn xc79_26 rfl rfl sy_refl) ?_
  refine sy_Fs (sy_gf xc79_27 xf79_22 rfl (wh_at hw 11 rfl) rfl (fh_at hX11 5 rfl rfl) sy_refl) ?_
  refine sy_Fs (sy_ild xc79_30 rfl rfl sy_refl) ?_
  refine sy_Fs (sx_aaln xc79_32 (wh_at hw 15 rfl) gv_tB (by decide) (by decide) hbf) ?_
  refine sy_Fs (sx_nul_t (pc' := 38) xc79_33 (by decide) (by decide)) ?_
  refine sy_Fs (sy_aldn xc79_38 rfl rfl sy_refl) ?_
  refine sy_Fs (sy_aldn xc79_39 rfl rfl sy_refl) ?_
  refine sy_Fs (sy_ildn xc79_40 rfl rfl sy_refl) ?_
  refine sy_Fs (sy_callG (kd := 3) (as := [(2, pl 11, 0), (2, pl 10, 0), (0, 28, 0)]) (S0 := []) (ret := [(0, 4294967295, 0)]) xc79_41 (sy_calV (as := [(2, pl 11, 0), (2, pl 10, 0), (0, 28, 0)]) (S0 := []) xm79_127 rfl rfl) rfl rfl (sy_rcvm xi80 (wh_at hw 11 rfl)) rfl (sy_oka (sy_oks_cons (sy_ok2 (wh_lt hw 11 (by first | decide | assumption))) (sy_oks_cons (sy_ok2 (wh_lt hw 10 (by first | decide | assumption))) (sy_oks_cons (sy_ok0 (by first | decide | assumption | omega | exact mo_rd_lt _ _ | exact mo_add_lt _ _ | exact mo_sub_lt _ _ | exact mo_mul_lt _ _ | exact mo_shl_lt _ _ | exact mo_ushr_lt _ _ | exact mo_or_lt (by decide) (mo_and_lt (mo_rd_lt _ _)) | exact mo_or_lt (mo_shl_lt _ _) (mo_and_lt (mo_rd_lt _ _)))) sy_oks_nil))) rfl xl80) (sy_Cw (cg_idsN (n := n) hw hX0 hX1 hX3 hX8 hX11 hX17 hbs hkn hff hbf hps hst hsu hsl hbad)) (by decide) (by rw [xl80]; decide) sy_refl) ?_
  refine sy_Fs (sx_ist (j := 5) (ls' := [(2, pl 11, 0), (2, pl 3, 0), (2, pl 10, 0), (0, 28, 0), (0, 0, 0), (0, 4294967295, 0)]) xc79_44 rfl (sy_ok0 (by first | decide | assumption | omega | exact mo_rd_lt _ _ | exact mo_add_lt _ _ | exact mo_sub_lt _ _ | exact mo_mul_lt _ _ | exact mo_shl_lt _ _ | exact mo_ushr_lt _ _ | exact mo_or_lt (by decide) (mo_and_lt (mo_rd_lt _ _)) | exact mo_or_lt (mo_shl_lt _ _) (mo_and_lt (mo_rd_lt _ _)))) (by rw [xl79]; rfl) rfl rfl) ?_
  refine sy_Fs (sy_ild xc79_46 rfl rfl sy_refl) ?_
  refine sy_Fs (sy_iconst (v := 1) xc79_48 (by decide) sy_refl) ?_
  refine sy_Fs (sx_gen_f xc79_49 (by decide) (by decide) (by decide) (by decide) sy_refl) ?_
  refine sy_Fs (sy_iconst (v := 0) xc79_52 (by decide) sy_refl) ?_
  exact sy_Fi xc79_53 xr79 rfl ⟨rfl, _, hw⟩
theorem cg_give2N (hw : wh 22 pl w0 w [(0, 1, 13, X0), (0, 8, 11, X1), (3, 6, 40, cbs), (0, 9, 11, X3), (1, 1, 105, Hd), (1, 1, 32, Id), (1, 1, 2, Fi), (3, 7, 4, cps), (0, 10, 6, X8), (1, 1, 28, Pb), (1, 1, 2048, Pl), (0, 11, 19, X11), (3, 6, 60, ckn), (1, 1, 32, Dg), (3, 6, 60, cff), (3, 6, 60, cbf), (1, 1, 2336, Ids), (0, 2, 13, X17), (1, 1, 64, Sp), (1, 0, 64, Sw), (1, 0, 8, Ss), (1, 1, 32, In)]) (hX0 : fh X0 jX [(2, pl 1, 0), (2, pl 10, 0), (2, pl 11, 0)]) (hX1 : fh X1 jM [(0, 1, 0), (2, pl 2, 0)]) (hX3 : fh X3 jB [(2, pl 5, 0), (2, pl 4, 0), (2, pl 6, 0), (0, 2, 0), (0, 1, 0), (2, pl 7, 0)]) (hX8 : fh X8 jP [(2, pl 9, 0)]) (hX11 : fh X11 jU [(2, pl 17, 0), (2, pl 12, 0), (0, 1, 0), (2, pl 13, 0), (2, pl 14, 0), (2, pl 15, 0), (0, stl, 0), (2, pl 16, 0)]) (hX17 : fh X17 jS [(2, pl 18, 0), (2, pl 19, 0), (2, pl 20, 0), (2, pl 21, 0), (0, su, 0), (0, sl, 0)]) (hbs : mv_rd 32 cbs 0 = pl 3 + 1) (hkn : mv_rd 32 ckn 0 = pl 3 + 1) (hff : mv_rd 32 cff 0 = 0) (hbf : mv_rd 32 cbf 0 = 0) (hps : mv_rd 32 cps 0 = pl 8 + 1) (hst : stl < 2) (hsu : su < 64) (hsl : sl < 4294967296) {place mask : Nat} (hab : mv_ab Pb 0 28 = true) (hp : place < 28) (hm1 : 0 < mask) (hm2 : mask ≤ 255) (hbad : mv_rd 32 (rg_G (mv_cw 32 Pl Pb 0 0 28) place mask) 0 ≠ 0 ∨ mv_rd 32 (rg_G (mv_cw 32 Pl Pb 0 0 28) place mask) 0 = 0 ∧ mv_rd 32 (rg_G (mv_cw 32 Pl Pb 0 0 28) place mask) 3 ≠ 1) : sy_D 72 n 4 96 [(2, pl 0, 0), (0, 0, 0), (0, 2, 0), (0, place, 0), (0, mask, 0)] w (fun ret w' => ret = [(0, 0, 0)] ∧ ∃ cs, wh 22 pl w0 w' cs) := by
  refine sy_Dof (us := [(255, 0, 0), (255, 0, 0), (255, 0, 0)]) (sy_oks_cons (sy_ok2 (wh_lt hw 0 (by first | decide | assumption))) (sy_oks_cons (sy_ok0 (by first | decide | assumption | omega | exact mo_rd_lt _ _ | exact mo_add_lt _ _ | exact mo_sub_lt _ _ | exact mo_mul_lt _ _ | exact mo_shl_lt _ _ | exact mo_ushr_lt _ _ | exact mo_or_lt (by decide) (mo_and_lt (mo_rd_lt _ _)) | exact mo_or_lt (mo_shl_lt _ _) (mo_and_lt (mo_rd_lt _ _)))) (sy_oks_cons (sy_ok0 (by first | decide | assumption | omega | exact mo_rd_lt _ _ | exact mo_add_lt _ _ | exact mo_sub_lt _ _ | exact mo_mul_lt _ _ | exact mo_shl_lt _ _ | exact mo_ushr_lt _ _ | exact mo_or_lt (by decide) (mo_and_lt (mo_rd_lt _ _)) | exact mo_or_lt (mo_shl_lt _ _) (mo_and_lt (mo_rd_lt _ _)))) (sy_oks_cons (sy_ok0 (by first | decide | assumption | omega | exact mo_rd_lt _ _ | exact mo_add_lt _ _ | exact mo_sub_lt _ _ | exact mo_mul_lt _ _ | exact mo_shl_lt _ _ | exact mo_ushr_lt _ _ | exact mo_or_lt (by decide) (mo_and_lt (mo_rd_lt _ _)) | exact mo_or_lt (mo_shl_lt _ _) (mo_and_lt (mo_rd_lt _ _)))) (sy_oks_cons (sy_ok0 (by first | decide | assumption | omega | exact mo_rd_lt _ _ | exact mo_add_lt _ _ | exact mo_sub_lt _ _ | exact mo_mul_lt _ _ | exact mo_shl_lt _ _ | exact mo_ushr_lt _ _ | exact mo_or_lt (by decide) (mo_and_lt (mo_rd_lt _ _)) | exact mo_or_lt (mo_shl_lt _ _) (mo_and_lt (mo_rd_lt _ _)))) sy_oks_nil))))) rfl rfl ?_
  show sy_F 72 n 4 96 0 [(2, pl 0, 0), (0, 0, 0), (0, 2, 0), (0, place, 0), (0, mask, 0), (255, 0, 0), (255, 0, 0), (255, 0, 0)] [] w _
  refine sy_Fs (sy_aldn xc72_0 rfl rfl sy_refl) ?_
  refine sy_Fs (sy_gf xc72_1 xf72_88 rfl (wh_at hw 0 rfl) rfl (fh_at hX0 0 rfl rfl) sy_refl) ?_
  refine sy_Fs (sy_ildn xc72_4 rfl rfl sy_refl) ?_
  refine sy_Fs (sy_callG (kd := 3) (as := [(2, pl 1, 0), (0, 0, 0)]) (S0 := []) (ret := [(2, pl 3, 0)]) xc72_5 (sy_calV (as := [(2, pl 1, 0), (0, 0, 0)]) (S0 := []) xm72_92 rfl rfl) rfl rfl (sy_rcvm xi53 (wh_at hw 1 rfl)) rfl (sy_oka (sy_oks_cons (sy_ok2 (wh_lt hw 1 (by first | decide | assumption))) (sy_oks_cons (sy_ok0 (by first | decide | assumption | omega | exact mo_rd_lt _ _ | exact mo_add_lt _ _ | exact mo_sub_lt _ _ | exact mo_mul_lt _ _ | exact mo_shl_lt _ _ | exact mo_ushr_lt _ _ | exact mo_or_lt (by decide) (mo_and_lt (mo_rd_lt _ _)) | exact mo_or_lt (mo_shl_lt _ _) (mo_and_lt (mo_rd_lt _ _)))) sy_oks_nil)) rfl xl53) (gv_blockAt (wh_lt hw 1 (by first | decide | assumption)) (wh_at hw 1 rfl) (fh_at hX1 0 rfl rfl) (fh_at hX1 1 rfl rfl) (wh_at hw 2 rfl) (by decide) (by decide) hbs) (by decide) (by rw [xl53]; decide) sy_refl) ?_
  refine sy_Fs (sx_ast (j := 5) (ls' := [(2, pl 0, 0), (0, 0, 0), (0, 2, 0), (0, place, 0), (0, mask, 0), (2, pl 3, 0), (255, 0, 0), (255, 0, 0)]) xc72_8 rfl (sy_ok2 (wh_lt hw 3 (by first | decide | assumption))) (by rw [xl72]; rfl) rfl rfl) ?_
  refine sy_Fs (sy_ald xc72_10 rfl rfl sy_refl) ?_
  refine sy_Fs (sy_nul_f xc72_12 (by decide) sy_refl) ?_
  refine sy_Fs (sy_ildn xc72_15 rfl rfl sy_refl) ?_
  refine sy_Fs (sy_iflt_f xc72_16 (by decide) (by decide) sy_refl) ?_
  refine sy_Fs (sy_ildn xc72_19 rfl rfl sy_refl) ?_
  refine sy_Fs (sy_iconst (v := 2) xc72_20 (by decide) sy_refl) ?_
  refine sy_Fs (sy_icmpgt_f xc72_21 (by decide) (by decide) (by decide) sy_refl) ?_
  refine sy_Fs (sy_ild xc72_24 rfl rfl sy_refl) ?_
  refine sy_Fs (sy_iflt_f xc72_26 (by decide) (by omega) sy_refl) ?_
  refine sy_Fs (sy_ild xc72_29 rfl rfl sy_refl) ?_
  refine sy_Fs (sy_sipush (v := 255) xc72_31 (by decide) (by decide) sy_refl) ?_
  refine sy_Fs (sy_icmple_t (pc' := 39) xc72_34 (by decide) hm2 (by decide) (by decide) sy_refl) ?_
  refine sy_Fs (sy_ald xc72_39 rfl rfl sy_refl) ?_
  refine sy_Fs (sy_ildn xc72_41 rfl rfl sy_refl) ?_
  refine sy_Fs (sy_aldn xc72_42 rfl rfl sy_refl) ?_
  refine sy_Fs (sy_gf xc72_43 xf72_16 rfl (wh_at hw 0 rfl) rfl (fh_at hX0 1 rfl rfl) sy_refl) ?_
  obtain ⟨ret, w, ⟨rfl, hw1⟩, hC⟩ := cg_cp2 (n := n) hw hX0 hX1 hX3 hX8 hX11 hX17 hbs hkn hff hbf hps hst hsu hsl hab
  refine sy_Fs (sy_callG (kd := 3) (as := [(2, pl 3, 0), (0, 2, 0), (2, pl 10, 0)]) (S0 := []) (ret := [(0, 28, 0)]) xc72_46 (sy_calV (as := [(2, pl 3, 0), (0, 2, 0), (2, pl 10, 0)]) (S0 := []) xm72_227 rfl rfl) rfl rfl (sy_rcvm xi73 (wh_at hw 3 rfl)) rfl (sy_oka (sy_oks_cons (sy_ok2 (wh_lt hw 3 (by first | decide | assumption))) (sy_oks_cons (sy_ok0 (by first | decide | assumption | omega | exact mo_rd_lt _ _ | exact mo_add_lt _ _ | exact mo_sub_lt _ _ | exact mo_mul_lt _ _ | exact mo_shl_lt _ _ | exact mo_ushr_lt _ _ | exact mo_or_lt (by decide) (mo_and_lt (mo_rd_lt _ _)) | exact mo_or_lt (mo_shl_lt _ _) (mo_and_lt (mo_rd_lt _ _)))) (sy_oks_cons (sy_ok2 (wh_lt hw 10 (by first | decide | assumption))) sy_oks_nil))) rfl xl73) hC (by decide) (by rw [xl73]; decide) sy_refl) ?_
  replace hw := hw1
  refine sy_Fs (sx_ist (j := 6) (ls' := [(2, pl 0, 0), (0, 0, 0), (0, 2, 0), (0, place, 0), (0, mask, 0), (2, pl 3, 0), (0, 28, 0), (255, 0, 0)]) xc72_49 rfl (sy_ok0 (by first | decide | assumption | omega | exact mo_rd_lt _ _ | exact mo_add_lt _ _ | exact mo_sub_lt _ _ | exact mo_mul_lt _ _ | exact mo_shl_lt _ _ | exact mo_ushr_lt _ _ | exact mo_or_lt (by decide) (mo_and_lt (mo_rd_lt _ _)) | exact mo_or_lt (mo_shl_lt _ _) (mo_and_lt (mo_rd_lt _ _)))) (by rw [xl72]; rfl) rfl rfl) ?_
  refine sy_Fs (sy_ild xc72_51 rfl rfl sy_refl) ?_
  refine sy_Fs (sy_le_f xc72_53 (by decide) hm1 (by omega) sy_refl) ?_
  refine sy_Fs (sy_ildn xc72_56 rfl rfl sy_refl) ?_
  refine sy_Fs (sy_iflt_f xc72_57 (by decide) (by omega) sy_refl) ?_
  refine sy_Fs (sy_ildn xc72_60 rfl rfl sy_refl) ?_
  refine sy_Fs (sy_ild xc72_61 rfl rfl sy_refl) ?_
  refine sy_Fs (sy_icmplt_t (pc' := 68) xc72_63 (by decide) hp (by decide) (by decide) sy_refl) ?_
  refine sy_Fs (sy_aldn xc72_68 rfl rfl sy_refl) ?_
  refine sy_Fs (sy_gf xc72_69 xf72_16 rfl (wh_at hw 0 rfl) rfl (fh_at hX0 1 rfl rfl) sy_refl) ?_
  refine sy_Fs (sy_ildn xc72_72 rfl rfl sy_refl) ?_
  refine sy_Fs (sy_aldn xc72_73 rfl rfl sy_refl) ?_
  refine sy_Fs (sy_gf xc72_74 xf72_16 rfl (wh_at hw 0 rfl) rfl (fh_at hX0 1 rfl rfl) sy_refl) ?_
  refine sy_Fs (sy_ildn xc72_77 rfl rfl sy_refl) ?_
  refine sy_Fs (sx_bal (z := (mv_rd 32 (mv_cw 32 Pl Pb 0 0 28) place)) xc72_78 (wh_at hw 10 rfl) (by omega) (by decide) rfl) ?_
  refine sy_Fs (sy_ild xc72_79 rfl rfl sy_refl) ?_
  refine sy_Fs (sx_ixor (z := (mo_xor (mv_rd 32 (mv_cw 32 Pl Pb 0 0 28) place) mask)) xc72_81 rfl) ?_
  refine sy_Fs (sx_i2b (z := (mn_b (mo_xor (mv_rd 32 (mv_cw 32 Pl Pb 0 0 28) place) mask))) xc72_82 rfl) ?_
  refine sy_Fw (i := 10) (x := (1, 1, 2048, (rg_G (mv_cw 32 Pl Pb 0 0 28) place mask))) hw (by decide) (sy_bas (i := place) xc72_83 (wh_at hw 10 rfl) rfl (by omega) (by decide) rfl sy_refl) ?_
  intro w hw
  simp only [List.set_cons_zero, List.set_cons_succ] at hw
  refine sy_Fs (sy_ildn xc72_84 rfl rfl sy_refl) ?_
  refine sy_Fs (sy_ifne_t (pc' := 100) xc72_85 (by decide) (by decide) (by decide) (by decide) sy_refl) ?_
  refine sy_Fs (sy_aldn xc72_100 rfl rfl sy_refl) ?_
  refine sy_Fs (sy_gf xc72_101 xf72_88 rfl (wh_at hw 0 rfl) rfl (fh_at hX0 0 rfl rfl) sy_refl) ?_
  refine sy_Fs (sy_ald xc72_104 rfl rfl sy_refl) ?_
  refine sy_Fs (sy_gf xc72_106 xf72_198 rfl (wh_at hw 3 rfl) rfl (fh_at hX3 0 rfl rfl) sy_refl) ?_
  refine sy_Fs (sy_callG (kd := 3) (as := [(2, pl 1, 0), (2, pl 5, 0)]) (S0 := []) (ret := [(2, pl 3, 0)]) xc72_109 (sy_calV (as := [(2, pl 1, 0), (2, pl 5, 0)]) (S0 := []) xm72_235 rfl rfl) rfl rfl (sy_rcvm xi77 (wh_at hw 1 rfl)) rfl (sy_oka (sy_oks_cons (sy_ok2 (wh_lt hw 1 (by first | decide | assumption))) (sy_oks_cons (sy_ok2 (wh_lt hw 5 (by first | decide | assumption))) sy_oks_nil)) rfl xl77) (sy_Cw (cg_first (n := n) hw hX0 hX1 hX3 hX8 hX11 hX17 hbs hkn hff hbf hps hst hsu hsl)) (by decide) (by rw [xl77]; decide) sy_refl) ?_
  refine sy_Fs (sx_ast (j := 7) (ls' := [(2, pl 0, 0), (0, 0, 0), (0, 2, 0), (0, place, 0), (0, mask, 0), (2, pl 3, 0), (0, 28, 0), (2, pl 3, 0)]) xc72_112 rfl (sy_ok2 (wh_lt hw 3 (by first | decide | assumption))) (by rw [xl72]; rfl) rfl rfl) ?_
  refine sy_Fs (sy_ildn xc72_114 rfl rfl sy_refl) ?_
  refine sy_Fs (sy_iconst (v := 1) xc72_115 (by decide) sy_refl) ?_
  refine sy_Fs (sy_icmpne_t (pc' := 135) xc72_116 (by decide) (by decide) (by decide) (by decide) (by decide) sy_refl) ?_
  refine sy_Fs (sy_aldn xc72_135 rfl rfl sy_refl) ?_
  refine sy_Fs (sy_gf xc72_136 xf72_99 rfl (wh_at hw 0 rfl) rfl (fh_at hX0 2 rfl rfl) sy_refl) ?_
  refine sy_Fs (sy_ald xc72_139 rfl rfl sy_refl) ?_
  refine sy_Fs (sy_aldn xc72_141 rfl rfl sy_refl) ?_
  refine sy_Fs (sy_gf xc72_142 xf72_16 rfl (wh_at hw 0 rfl) rfl (fh_at hX0 1 rfl rfl) sy_refl) ?_
  refine sy_Fs (sy_ild xc72_145 rfl rfl sy_refl) ?_
  obtain ⟨ret, w, ⟨rfl, hE⟩, hC⟩ := cg_blkN (n := n) hw hX0 hX1 hX3 hX8 hX11 hX17 hbs hkn hff hbf hps hst hsu hsl hbad
  refine sy_Fs (sy_callG (kd := 3) (as := [(2, pl 11, 0), (2, pl 3, 0), (2, pl 10, 0), (0, 28, 0)]) (S0 := []) (ret := [(0, 0, 0)]) xc72_147 (sy_calV (as := [(2, pl 11, 0), (2, pl 3, 0), (2, pl 10, 0), (0, 28, 0)]) (S0 := []) xm72_243 rfl rfl) rfl rfl (sy_rcvm xi79 (wh_at hw 11 rfl)) rfl (sy_oka (sy_oks_cons (sy_ok2 (wh_lt hw 11 (by first | decide | assumption))) (sy_oks_cons (sy_ok2 (wh_lt hw 3 (by first | decide | assumption))) (sy_oks_cons (sy_ok2 (wh_lt hw 10 (by first | decide | assumption))) (sy_oks_cons (sy_ok0 (by first | decide | assumption | omega | exact mo_rd_lt _ _ | exact mo_add_lt _ _ | exact mo_sub_lt _ _ | exact mo_mul_lt _ _ | exact mo_shl_lt _ _ | exact mo_ushr_lt _ _ | exact mo_or_lt (by decide) (mo_and_lt (mo_rd_lt _ _)) | exact mo_or_lt (mo_shl_lt _ _) (mo_and_lt (mo_rd_lt _ _)))) sy_oks_nil)))) rfl xl79) hC (by decide) (by rw [xl79]; decide) sy_refl) ?_
  exact sy_Fi xc72_150 xr72 rfl ⟨rfl, hE⟩
end CB
section RB
variable {n : Nat} {pl : Nat → Nat} {w0 w : mv_T 10} {X0 Pc Wd Vv St Af Mi Hd Gv Gi Hi Bi Hb Fl Of Ou Fs Bs Hf Hh Bb Oi Ly Hw He Ht Ca Lu th up lp oc co so ms bh : Nat}
theorem wr_inG {x b h : Nat} (hb : b < x) (hx : h < x) (hh : x < 2147483648) : sy_C 98 n 0 0 [(1, x, 0), (1, b, 0), (1, h, 0)] w [(0, 0, 0)] w := by
  have key : sy_F 98 n 0 0 0 [(1, x, 0), (255, 0, 0), (1, b, 0), (255, 0, 0), (1, h, 0), (255, 0, 0)] [] w (fun ret w' => ret = [(0, 0, 0)] ∧ w' = w) := by
    refine sy_Fs (sy_lldn (j := 0) xc98_0 rfl rfl rfl sy_refl) ?_
    refine sy_Fs (sy_lldn (j := 2) xc98_1 rfl rfl rfl sy_refl) ?_
    refine sy_Fs (sx_lcmp_g xc98_2 (by omega) hb) ?_
    refine sy_Fs (sy_iflt_f xc98_3 (by decide) (by decide) sy_refl) ?_
    refine sy_Fs (sy_lldn (j := 0) xc98_6 rfl rfl rfl sy_refl) ?_
    refine sy_Fs (sx_lld xc98_7 rfl rfl) ?_
    refine sy_Fs (sx_lcmp_g xc98_9 (by omega) hx) ?_
    refine sy_Fs (sx_ifgt_t (pc' := 17) xc98_10 (by decide) (by decide) (by decide) (by decide)) ?_
    refine sy_Fs (sy_iconst (v := 0) xc98_17 (by decide) sy_refl) ?_
    exact sy_Fz xc98_18 xr98 (by decide) ⟨rfl, rfl⟩
  obtain ⟨f, ret, w', ⟨rfl, rfl⟩, r⟩ := key _ (sx_l3 (by omega) (by omega) (by omega))
  exact ⟨f, r⟩
theorem wr_inN {x b h : Nat} (hx : 2147483648 ≤ x) (hx2 : x < 4294967296) (hb : b < 2147483648) (hh : h < 2147483648) : sy_C 98 n 0 0 [(1, (x + 18446744069414584320), 0), (1, b, 0), (1, h, 0)] w [(0, 0, 0)] w := by
  have key : sy_F 98 n 0 0 0 [(1, (x + 18446744069414584320), 0), (255, 0, 0), (1, b, 0), (255, 0, 0), (1, h, 0), (255, 0, 0)] [] w (fun ret w' => ret = [(0, 0, 0)] ∧ w' = w) := by
    refine sy_Fs (sy_lldn (j := 0) xc98_0 rfl rfl rfl sy_refl) ?_
    refine sy_Fs (sy_lldn (j := 2) xc98_1 rfl rfl rfl sy_refl) ?_
    refine sy_Fs (sx_lcmp_n xc98_2 (by omega) (by omega) (by omega)) ?_
    refine sy_Fs (sy_iflt_t (pc' := 17) xc98_3 (by decide) (by decide) (by decide) (by decide) sy_refl) ?_
    refine sy_Fs (sy_iconst (v := 0) xc98_17 (by decide) sy_refl) ?_
    exact sy_Fz xc98_18 xr98 (by decide) ⟨rfl, rfl⟩
  obtain ⟨f, ret, w', ⟨rfl, rfl⟩, r⟩ := key _ (sx_l3 (by omega) (by omega) (by omega))
  exact ⟨f, r⟩
theorem wr_plainN (hw : wh 29 pl w0 w [(0, 0, 107, X0), (1, 1, 64, Pc), (1, 0, 64, mc_K), (1, 0, 64, Wd), (1, 0, 8, Vv), (1, 0, 8, St), (1, 0, 8, Af), (1, 1, 32, Mi), (1, 1, 4200, Hd), (1, 1, 105, Gv), (1, 1, 32, Gi), (1, 1, 1920, Hi), (1, 1, 1280, Bi), (1, 1, 6300, Hb), (1, 1, 3200, Fl), (1, 1, 1900, Of), (1, 1, 32, Ou), (1, 0, 40, Fs), (1, 0, 40, Bs), (1, 2, 60, Hf), (1, 2, 60, Hh), (1, 1, 76000, Bb), (1, 1, 2304, Oi), (1, 1, 2400, Ly), (1, 0, 60, Hw), (1, 0, 60, He), (1, 0, 60, Ht), (1, 0, 60, Ca), (1, 0, 2, Lu)]) (hX0 : fh X0 jR [(0, th, 0), (2, pl 1, 0), (2, pl 2, 0), (2, pl 3, 0), (2, pl 4, 0), (2, pl 5, 0), (2, pl 6, 0), (2, pl 7, 0), (0, up, 0), (1, lp, 0), (2, pl 8, 0), (2, pl 9, 0), (2, pl 10, 0), (2, pl 11, 0), (2, pl 12, 0), (2, pl 13, 0), (2, pl 14, 0), (2, pl 15, 0), (2, pl 16, 0), (2, pl 17, 0), (2, pl 18, 0), (2, pl 19, 0), (2, pl 20, 0), (2, pl 21, 0), (2, pl 22, 0), (2, pl 23, 0), (2, pl 24, 0), (2, pl 25, 0), (2, pl 26, 0), (2, pl 27, 0), (2, pl 28, 0), (0, 1, 0), (0, 1, 0), (0, oc, 0), (0, co, 0), (0, so, 0), (0, ms, 0), (0, bh, 0), (0, 0, 0)]) (h0 : mv_rd 32 Of 0 ≠ 0) : sy_D 148 n 1 25 [(2, pl 15, 0), (0, 0, 0), (0, 28, 0)] w (fun ret w' => ret = [(0, 0, 0)] ∧ w' = w) := by
  refine sy_Dof (us := [(255, 0, 0), (255, 0, 0), (255, 0, 0)]) (sy_oks_cons (sy_ok2 (wh_lt hw 15 (by first | decide | assumption))) (sy_oks_cons (sy_ok0 (by first | decide | assumption | omega | exact mo_rd_lt _ _ | exact mo_add_lt _ _ | exact mo_sub_lt _ _ | exact mo_mul_lt _ _ | exact mo_shl_lt _ _ | exact mo_ushr_lt _ _ | exact mo_or_lt (by decide) (mo_and_lt (mo_rd_lt _ _)) | exact mo_or_lt (mo_shl_lt _ _) (mo_and_lt (mo_rd_lt _ _)))) (sy_oks_cons (sy_ok0 (by first | decide | assumption | omega | exact mo_rd_lt _ _ | exact mo_add_lt _ _ | exact mo_sub_lt _ _ | exact mo_mul_lt _ _ | exact mo_shl_lt _ _ | exact mo_ushr_lt _ _ | exact mo_or_lt (by decide) (mo_and_lt (mo_rd_lt _ _)) | exact mo_or_lt (mo_shl_lt _ _) (mo_and_lt (mo_rd_lt _ _)))) sy_oks_nil))) rfl rfl ?_
  show sy_F 148 n 1 25 0 [(2, pl 15, 0), (0, 0, 0), (0, 28, 0), (255, 0, 0), (255, 0, 0), (255, 0, 0)] [] w _
  have hl0 := mo_rd_lt Of 0
  rcases (show 2147483648 ≤ mv_rd 32 Of 0 ∨ (4 < mv_rd 32 Of 0 ∧ mv_rd 32 Of 0 < 2147483648) ∨ mv_rd 32 Of 0 = 1 ∨ mv_rd 32 Of 0 = 2 ∨ mv_rd 32 Of 0 = 3 ∨ mv_rd 32 Of 0 = 4 by omega) with hn | ⟨h5, hl⟩ | e1 | e2 | e3 | e4
  ·
    refine sy_Fs (sy_ildn xc148_0 rfl rfl sy_refl) ?_
    refine sy_Fs (sy_ildn xc148_1 rfl rfl sy_refl) ?_
    refine sy_Fs (sy_ge_f xc148_2 (by decide) (by decide) (by decide) sy_refl) ?_
    refine sy_Fs (sy_aldn xc148_5 rfl rfl sy_refl) ?_
    refine sy_Fs (sy_ildn xc148_6 rfl rfl sy_refl) ?_
    refine sy_Fs (sx_bal (z := (mv_rd 32 Of 0)) xc148_7 (wh_at hw 15 rfl) (by decide) (by decide) rfl) ?_
    refine sy_Fs (sx_i2ln xc148_8 hn (mo_rd_lt _ _)) ?_
    refine sy_Fs (sy_lconst xc148_9 sy_refl) ?_
    refine sy_Fs (sy_ldc2 (v := 4) xc148_10 xk148_248 sy_refl) ?_
    refine sy_Fs (sy_callG (kd := 1) (as := [(1, ((mv_rd 32 Of 0) + 18446744069414584320), 0), (1, 1, 0), (1, 4, 0)]) (S0 := []) (ret := [(0, 0, 0)]) xc148_13 (sy_calS (as := [(1, ((mv_rd 32 Of 0) + 18446744069414584320), 0), (1, 1, 0), (1, 4, 0)]) (S0 := []) xm148_147 rfl rfl) rfl rfl rfl rfl (sy_oka (sy_oks_cons (sy_ok1 (by first | decide | assumption | omega | exact mo_rd_lt _ _ | exact mo_add_lt _ _ | exact mo_sub_lt _ _ | exact mo_mul_lt _ _ | exact mo_shl_lt _ _ | exact mo_ushr_lt _ _ | exact mo_or_lt (by decide) (mo_and_lt (mo_rd_lt _ _)) | exact mo_or_lt (mo_shl_lt _ _) (mo_and_lt (mo_rd_lt _ _)))) (sy_oks_cons (sy_ok1 (by first | decide | assumption | omega | exact mo_rd_lt _ _ | exact mo_add_lt _ _ | exact mo_sub_lt _ _ | exact mo_mul_lt _ _ | exact mo_shl_lt _ _ | exact mo_ushr_lt _ _ | exact mo_or_lt (by decide) (mo_and_lt (mo_rd_lt _ _)) | exact mo_or_lt (mo_shl_lt _ _) (mo_and_lt (mo_rd_lt _ _)))) (sy_oks_cons (sy_ok1 (by first | decide | assumption | omega | exact mo_rd_lt _ _ | exact mo_add_lt _ _ | exact mo_sub_lt _ _ | exact mo_mul_lt _ _ | exact mo_shl_lt _ _ | exact mo_ushr_lt _ _ | exact mo_or_lt (by decide) (mo_and_lt (mo_rd_lt _ _)) | exact mo_or_lt (mo_shl_lt _ _) (mo_and_lt (mo_rd_lt _ _)))) sy_oks_nil))) rfl xl98) (wr_inN (n := n) hn (mo_rd_lt _ _) (by decide) (by decide)) (by decide) (by rw [xl98]; decide) sy_refl) ?_
    refine sy_Fs (sy_ifne_f xc148_16 (by decide) (by decide) sy_refl) ?_
    refine sy_Fs (sy_iconst (v := 0) xc148_19 (by decide) sy_refl) ?_
    exact sy_Fi xc148_20 xr148 rfl ⟨rfl, rfl⟩
  ·
    refine sy_Fs (sy_ildn xc148_0 rfl rfl sy_refl) ?_
    refine sy_Fs (sy_ildn xc148_1 rfl rfl sy_refl) ?_
    refine sy_Fs (sy_ge_f xc148_2 (by decide) (by decide) (by decide) sy_refl) ?_
    refine sy_Fs (sy_aldn xc148_5 rfl rfl sy_refl) ?_
    refine sy_Fs (sy_ildn xc148_6 rfl rfl sy_refl) ?_
    refine sy_Fs (sx_bal (z := (mv_rd 32 Of 0)) xc148_7 (wh_at hw 15 rfl) (by decide) (by decide) rfl) ?_
    refine sy_Fs (sx_i2l xc148_8 (by first | decide | assumption | omega | exact mo_rd_lt _ _ | exact mo_add_lt _ _ | exact mo_sub_lt _ _ | exact mo_mul_lt _ _ | exact mo_shl_lt _ _ | exact mo_ushr_lt _ _ | exact mo_or_lt (by decide) (mo_and_lt (mo_rd_lt _ _)) | exact mo_or_lt (mo_shl_lt _ _) (mo_and_lt (mo_rd_lt _ _)))) ?_
    refine sy_Fs (sy_lconst xc148_9 sy_refl) ?_
    refine sy_Fs (sy_ldc2 (v := 4) xc148_10 xk148_248 sy_refl) ?_
    refine sy_Fs (sy_callG (kd := 1) (as := [(1, (mv_rd 32 Of 0), 0), (1, 1, 0), (1, 4, 0)]) (S0 := []) (ret := [(0, 0, 0)]) xc148_13 (sy_calS (as := [(1, (mv_rd 32 Of 0), 0), (1, 1, 0), (1, 4, 0)]) (S0 := []) xm148_147 rfl rfl) rfl rfl rfl rfl (sy_oka (sy_oks_cons (sy_ok1 (by first | decide | assumption | omega | exact mo_rd_lt _ _ | exact mo_add_lt _ _ | exact mo_sub_lt _ _ | exact mo_mul_lt _ _ | exact mo_shl_lt _ _ | exact mo_ushr_lt _ _ | exact mo_or_lt (by decide) (mo_and_lt (mo_rd_lt _ _)) | exact mo_or_lt (mo_shl_lt _ _) (mo_and_lt (mo_rd_lt _ _)))) (sy_oks_cons (sy_ok1 (by first | decide | assumption | omega | exact mo_rd_lt _ _ | exact mo_add_lt _ _ | exact mo_sub_lt _ _ | exact mo_mul_lt _ _ | exact mo_shl_lt _ _ | exact mo_ushr_lt _ _ | exact mo_or_lt (by decide) (mo_and_lt (mo_rd_lt _ _)) | exact mo_or_lt (mo_shl_lt _ _) (mo_and_lt (mo_rd_lt _ _)))) (sy_oks_cons (sy_ok1 (by first | decide | assumption | omega | exact mo_rd_lt _ _ | exact mo_add_lt _ _ | exact mo_sub_lt _ _ | exact mo_mul_lt _ _ | exact mo_shl_lt _ _ | exact mo_ushr_lt _ _ | exact mo_or_lt (by decide) (mo_and_lt (mo_rd_lt _ _)) | exact mo_or_lt (mo_shl_lt _ _) (mo_and_lt (mo_rd_lt _ _)))) sy_oks_nil))) rfl xl98) (wr_inG (n := n) (by omega) (by omega) hl) (by decide) (by rw [xl98]; decide) sy_refl) ?_
    refine sy_Fs (sy_ifne_f xc148_16 (by decide) (by decide) sy_refl) ?_
    refine sy_Fs (sy_iconst (v := 0) xc148_19 (by decide) sy_refl) ?_
    exact sy_Fi xc148_20 xr148 rfl ⟨rfl, rfl⟩
  ·
    refine sy_Fs (sy_ildn xc148_0 rfl rfl sy_refl) ?_
    refine sy_Fs (sy_ildn xc148_1 rfl rfl sy_refl) ?_
    refine sy_Fs (sy_ge_f xc148_2 (by decide) (by decide) (by decide) sy_refl) ?_
    refine sy_Fs (sy_aldn xc148_5 rfl rfl sy_refl) ?_
    refine sy_Fs (sy_ildn xc148_6 rfl rfl sy_refl) ?_
    refine sy_Fs (sx_bal (z := 1) xc148_7 (wh_at hw 15 rfl) (by decide) (by decide) e1) ?_
    refine sy_Fs (sx_i2l xc148_8 (by first | decide | assumption | omega | exact mo_rd_lt _ _ | exact mo_add_lt _ _ | exact mo_sub_lt _ _ | exact mo_mul_lt _ _ | exact mo_shl_lt _ _ | exact mo_ushr_lt _ _ | exact mo_or_lt (by decide) (mo_and_lt (mo_rd_lt _ _)) | exact mo_or_lt (mo_shl_lt _ _) (mo_and_lt (mo_rd_lt _ _)))) ?_
    refine sy_Fs (sy_lconst xc148_9 sy_refl) ?_
    refine sy_Fs (sy_ldc2 (v := 4) xc148_10 xk148_248 sy_refl) ?_
    refine sy_Fs (sy_callG (kd := 1) (as := [(1, 1, 0), (1, 1, 0), (1, 4, 0)]) (S0 := []) (ret := [(0, 1, 0)]) xc148_13 (sy_calS (as := [(1, 1, 0), (1, 1, 0), (1, 4, 0)]) (S0 := []) xm148_147 rfl rfl) rfl rfl rfl rfl (sy_oka (sy_oks_cons (sy_ok1 (by first | decide | assumption | omega | exact mo_rd_lt _ _ | exact mo_add_lt _ _ | exact mo_sub_lt _ _ | exact mo_mul_lt _ _ | exact mo_shl_lt _ _ | exact mo_ushr_lt _ _ | exact mo_or_lt (by decide) (mo_and_lt (mo_rd_lt _ _)) | exact mo_or_lt (mo_shl_lt _ _) (mo_and_lt (mo_rd_lt _ _)))) (sy_oks_cons (sy_ok1 (by first | decide | assumption | omega | exact mo_rd_lt _ _ | exact mo_add_lt _ _ | exact mo_sub_lt _ _ | exact mo_mul_lt _ _ | exact mo_shl_lt _ _ | exact mo_ushr_lt _ _ | exact mo_or_lt (by decide) (mo_and_lt (mo_rd_lt _ _)) | exact mo_or_lt (mo_shl_lt _ _) (mo_and_lt (mo_rd_lt _ _)))) (sy_oks_cons (sy_ok1 (by first | decide | assumption | omega | exact mo_rd_lt _ _ | exact mo_add_lt _ _ | exact mo_sub_lt _ _ | exact mo_mul_lt _ _ | exact mo_shl_lt _ _ | exact mo_ushr_lt _ _ | exact mo_or_lt (by decide) (mo_and_lt (mo_rd_lt _ _)) | exact mo_or_lt (mo_shl_lt _ _) (mo_and_lt (mo_rd_lt _ _)))) sy_oks_nil))) rfl xl98) (wr_in (n := n) (by first | decide | assumption | omega) (by first | decide | assumption | omega) (by first | decide | assumption | omega)) (by decide) (by rw [xl98]; decide) sy_refl) ?_
    refine sy_Fs (sy_ifne_t (pc' := 21) xc148_16 (by decide) (by decide) (by decide) (by decide) sy_refl) ?_
    refine sy_Fs (sy_ildn xc148_21 rfl rfl sy_refl) ?_
    refine sy_Fs (sy_iconst (v := 1) xc148_22 (by decide) sy_refl) ?_
    refine sy_Fs (sx_iadd (z := 1) xc148_23 (by decide)) ?_
    refine sy_Fs (sy_bipush (v := 33) xc148_24 (by decide) (by decide) sy_refl) ?_
    refine sy_Fs (sy_aldn xc148_26 rfl rfl sy_refl) ?_
    refine sy_Fs (sy_ildn xc148_27 rfl rfl sy_refl) ?_
    refine sy_Fs (sx_bal (z := 1) xc148_28 (wh_at hw 15 rfl) (by decide) (by decide) e1) ?_
    refine sy_Fs (sx_imul (z := 33) xc148_29 (by decide)) ?_
    refine sy_Fs (sx_iadd (z := 34) xc148_30 (by decide)) ?_
    refine sy_Fs (sx_istn (j := 3) (ls' := [(2, pl 15, 0), (0, 0, 0), (0, 28, 0), (0, 34, 0), (255, 0, 0), (255, 0, 0)]) xc148_31 rfl rfl (sy_ok0 (by first | decide | assumption | omega | exact mo_rd_lt _ _ | exact mo_add_lt _ _ | exact mo_sub_lt _ _ | exact mo_mul_lt _ _ | exact mo_shl_lt _ _ | exact mo_ushr_lt _ _ | exact mo_or_lt (by decide) (mo_and_lt (mo_rd_lt _ _)) | exact mo_or_lt (mo_shl_lt _ _) (mo_and_lt (mo_rd_lt _ _)))) (by rw [xl148]; rfl) rfl rfl) ?_
    refine sy_Fs (sy_ildn xc148_32 rfl rfl sy_refl) ?_
    refine sy_Fs (sy_ildn xc148_33 rfl rfl sy_refl) ?_
    refine sy_Fs (sy_ge_t (pc' := 51) xc148_34 (by decide) (by decide) (by decide) (by decide) sy_refl) ?_
    refine sy_Fs (sy_iconst (v := 0) xc148_51 (by decide) sy_refl) ?_
    exact sy_Fi xc148_52 xr148 rfl ⟨rfl, rfl⟩
  ·
    refine sy_Fs (sy_ildn xc148_0 rfl rfl sy_refl) ?_
    refine sy_Fs (sy_ildn xc148_1 rfl rfl sy_refl) ?_
    refine sy_Fs (sy_ge_f xc148_2 (by decide) (by decide) (by decide) sy_refl) ?_
    refine sy_Fs (sy_aldn xc148_5 rfl rfl sy_refl) ?_
    refine sy_Fs (sy_ildn xc148_6 rfl rfl sy_refl) ?_
    refine sy_Fs (sx_bal (z := 2) xc148_7 (wh_at hw 15 rfl) (by decide) (by decide) e2) ?_
    refine sy_Fs (sx_i2l xc148_8 (by first | decide | assumption | omega | exact mo_rd_lt _ _ | exact mo_add_lt _ _ | exact mo_sub_lt _ _ | exact mo_mul_lt _ _ | exact mo_shl_lt _ _ | exact mo_ushr_lt _ _ | exact mo_or_lt (by decide) (mo_and_lt (mo_rd_lt _ _)) | exact mo_or_lt (mo_shl_lt _ _) (mo_and_lt (mo_rd_lt _ _)))) ?_
    refine sy_Fs (sy_lconst xc148_9 sy_refl) ?_
    refine sy_Fs (sy_ldc2 (v := 4) xc148_10 xk148_248 sy_refl) ?_
    refine sy_Fs (sy_callG (kd := 1) (as := [(1, 2, 0), (1, 1, 0), (1, 4, 0)]) (S0 := []) (ret := [(0, 1, 0)]) xc148_13 (sy_calS (as := [(1, 2, 0), (1, 1, 0), (1, 4, 0)]) (S0 := []) xm148_147 rfl rfl) rfl rfl rfl rfl (sy_oka (sy_oks_cons (sy_ok1 (by first | decide | assumption | omega | exact mo_rd_lt _ _ | exact mo_add_lt _ _ | exact mo_sub_lt _ _ | exact mo_mul_lt _ _ | exact mo_shl_lt _ _ | exact mo_ushr_lt _ _ | exact mo_or_lt (by decide) (mo_and_lt (mo_rd_lt _ _)) | exact mo_or_lt (mo_shl_lt _ _) (mo_and_lt (mo_rd_lt _ _)))) (sy_oks_cons (sy_ok1 (by first | decide | assumption | omega | exact mo_rd_lt _ _ | exact mo_add_lt _ _ | exact mo_sub_lt _ _ | exact mo_mul_lt _ _ | exact mo_shl_lt _ _ | exact mo_ushr_lt _ _ | exact mo_or_lt (by decide) (mo_and_lt (mo_rd_lt _ _)) | exact mo_or_lt (mo_shl_lt _ _) (mo_and_lt (mo_rd_lt _ _)))) (sy_oks_cons (sy_ok1 (by first | decide | assumption | omega | exact mo_rd_lt _ _ | exact mo_add_lt _ _ | exact mo_sub_lt _ _ | exact mo_mul_lt _ _ | exact mo_shl_lt _ _ | exact mo_ushr_lt _ _ | exact mo_or_lt (by decide) (mo_and_lt (mo_rd_lt _ _)) | exact mo_or_lt (mo_shl_lt _ _) (mo_and_lt (mo_rd_lt _ _)))) sy_oks_nil))) rfl xl98) (wr_in (n := n) (by first | decide | assumption | omega) (by first | decide | assumption | omega) (by first | decide | assumption | omega)) (by decide) (by rw [xl98]; decide) sy_refl) ?_
    refine sy_Fs (sy_ifne_t (pc' := 21) xc148_16 (by decide) (by decide) (by decide) (by decide) sy_refl) ?_
    refine sy_Fs (sy_ildn xc148_21 rfl rfl sy_refl) ?_
    refine sy_Fs (sy_iconst (v := 1) xc148_22 (by decide) sy_refl) ?_
    refine sy_Fs (sx_iadd (z := 1) xc148_23 (by decide)) ?_
    refine sy_Fs (sy_bipush (v := 33) xc148_24 (by decide) (by decide) sy_refl) ?_
    refine sy_Fs (sy_aldn xc148_26 rfl rfl sy_refl) ?_
    refine sy_Fs (sy_ildn xc148_27 rfl rfl sy_refl) ?_
    refine sy_Fs (sx_bal (z := 2) xc148_28 (wh_at hw 15 rfl) (by decide) (by decide) e2) ?_
    refine sy_Fs (sx_imul (z := 66) xc148_29 (by decide)) ?_
    refine sy_Fs (sx_iadd (z := 67) xc148_30 (by decide)) ?_
    refine sy_Fs (sx_istn (j := 3) (ls' := [(2, pl 15, 0), (0, 0, 0), (0, 28, 0), (0, 67, 0), (255, 0, 0), (255, 0, 0)]) xc148_31 rfl rfl (sy_ok0 (by first | decide | assumption | omega | exact mo_rd_lt _ _ | exact mo_add_lt _ _ | exact mo_sub_lt _ _ | exact mo_mul_lt _ _ | exact mo_shl_lt _ _ | exact mo_ushr_lt _ _ | exact mo_or_lt (by decide) (mo_and_lt (mo_rd_lt _ _)) | exact mo_or_lt (mo_shl_lt _ _) (mo_and_lt (mo_rd_lt _ _)))) (by rw [xl148]; rfl) rfl rfl) ?_
    refine sy_Fs (sy_ildn xc148_32 rfl rfl sy_refl) ?_
    refine sy_Fs (sy_ildn xc148_33 rfl rfl sy_refl) ?_
    refine sy_Fs (sy_ge_t (pc' := 51) xc148_34 (by decide) (by decide) (by decide) (by decide) sy_refl) ?_
    refine sy_Fs (sy_iconst (v := 0) xc148_51 (by decide) sy_refl) ?_
    exact sy_Fi xc148_52 xr148 rfl ⟨rfl, rfl⟩
  ·
    refine sy_Fs (sy_ildn xc148_0 rfl rfl sy_refl) ?_
    refine sy_Fs (sy_ildn xc148_1 rfl rfl sy_refl) ?_
    refine sy_Fs (sy_ge_f xc148_2 (by decide) (by decide) (by decide) sy_refl) ?_
    refine sy_Fs (sy_aldn xc148_5 rfl rfl sy_refl) ?_
    refine sy_Fs (sy_ildn xc148_6 rfl rfl sy_refl) ?_
    refine sy_Fs (sx_bal (z := 3) xc148_7 (wh_at hw 15 rfl) (by decide) (by decide) e3) ?_
    refine sy_Fs (sx_i2l xc148_8 (by first | decide | assumption | omega | exact mo_rd_lt _ _ | exact mo_add_lt _ _ | exact mo_sub_lt _ _ | exact mo_mul_lt _ _ | exact mo_shl_lt _ _ | exact mo_ushr_lt _ _ | exact mo_or_lt (by decide) (mo_and_lt (mo_rd_lt _ _)) | exact mo_or_lt (mo_shl_lt _ _) (mo_and_lt (mo_rd_lt _ _)))) ?_
    refine sy_Fs (sy_lconst xc148_9 sy_refl) ?_
    refine sy_Fs (sy_ldc2 (v := 4) xc148_10 xk148_248 sy_refl) ?_
    refine sy_Fs (sy_callG (kd := 1) (as := [(1, 3, 0), (1, 1, 0), (1, 4, 0)]) (S0 := []) (ret := [(0, 1, 0)]) xc148_13 (sy_calS (as := [(1, 3, 0), (1, 1, 0), (1, 4, 0)]) (S0 := []) xm148_147 rfl rfl) rfl rfl rfl rfl (sy_oka (sy_oks_cons (sy_ok1 (by first | decide | assumption | omega | exact mo_rd_lt _ _ | exact mo_add_lt _ _ | exact mo_sub_lt _ _ | exact mo_mul_lt _ _ | exact mo_shl_lt _ _ | exact mo_ushr_lt _ _ | exact mo_or_lt (by decide) (mo_and_lt (mo_rd_lt _ _)) | exact mo_or_lt (mo_shl_lt _ _) (mo_and_lt (mo_rd_lt _ _)))) (sy_oks_cons (sy_ok1 (by first | decide | assumption | omega | exact mo_rd_lt _ _ | exact mo_add_lt _ _ | exact mo_sub_lt _ _ | exact mo_mul_lt _ _ | exact mo_shl_lt _ _ | exact mo_ushr_lt _ _ | exact mo_or_lt (by decide) (mo_and_lt (mo_rd_lt _ _)) | exact mo_or_lt (mo_shl_lt _ _) (mo_and_lt (mo_rd_lt _ _)))) (sy_oks_cons (sy_ok1 (by first | decide | assumption | omega | exact mo_rd_lt _ _ | exact mo_add_lt _ _ | exact mo_sub_lt _ _ | exact mo_mul_lt _ _ | exact mo_shl_lt _ _ | exact mo_ushr_lt _ _ | exact mo_or_lt (by decide) (mo_and_lt (mo_rd_lt _ _)) | exact mo_or_lt (mo_shl_lt _ _) (mo_and_lt (mo_rd_lt _ _)))) sy_oks_nil))) rfl xl98) (wr_in (n := n) (by first | decide | assumption | omega) (by first | decide | assumption | omega) (by first | decide | assumption | omega)) (by decide) (by rw [xl98]; decide) sy_refl) ?_
    refine sy_Fs (sy_ifne_t (pc' := 21) xc148_16 (by decide) (by decide) (by decide) (by decide) sy_refl) ?_
    refine sy_Fs (sy_ildn xc148_21 rfl rfl sy_refl) ?_
    refine sy_Fs (sy_iconst (v := 1) xc148_22 (by decide) sy_refl) ?_
    refine sy_Fs (sx_iadd (z := 1) xc148_23 (by decide)) ?_
    refine sy_Fs (sy_bipush (v := 33) xc148_24 (by decide) (by decide) sy_refl) ?_
    refine sy_Fs (sy_aldn xc148_26 rfl rfl sy_refl) ?_
    refine sy_Fs (sy_ildn xc148_27 rfl rfl sy_refl) ?_
    refine sy_Fs (sx_bal (z := 3) xc148_28 (wh_at hw 15 rfl) (by decide) (by decide) e3) ?_
    refine sy_Fs (sx_imul (z := 99) xc148_29 (by decide)) ?_
    refine sy_Fs (sx_iadd (z := 100) xc148_30 (by decide)) ?_
    refine sy_Fs (sx_istn (j := 3) (ls' := [(2, pl 15, 0), (0, 0, 0), (0, 28, 0), (0, 100, 0), (255, 0, 0), (255, 0, 0)]) xc148_31 rfl rfl (sy_ok0 (by first | decide | assumption | omega | exact mo_rd_lt _ _ | exact mo_add_lt _ _ | exact mo_sub_lt _ _ | exact mo_mul_lt _ _ | exact mo_shl_lt _ _ | exact mo_ushr_lt _ _ | exact mo_or_lt (by decide) (mo_and_lt (mo_rd_lt _ _)) | exact mo_or_lt (mo_shl_lt _ _) (mo_and_lt (mo_rd_lt _ _)))) (by rw [xl148]; rfl) rfl rfl) ?_
    refine sy_Fs (sy_ildn xc148_32 rfl rfl sy_refl) ?_
    refine sy_Fs (sy_ildn xc148_33 rfl rfl sy_refl) ?_
    refine sy_Fs (sy_ge_t (pc' := 51) xc148_34 (by decide) (by decide) (by decide) (by decide) sy_refl) ?_
    refine sy_Fs (sy_iconst (v := 0) xc148_51 (by decide) sy_refl) ?_
    exact sy_Fi xc148_52 xr148 rfl ⟨rfl, rfl⟩
  ·
    refine sy_Fs (sy_ildn xc148_0 rfl rfl sy_refl) ?_
    refine sy_Fs (sy_ildn xc148_1 rfl rfl sy_refl) ?_
    refine sy_Fs (sy_ge_f xc148_2 (by decide) (by decide) (by decide) sy_refl) ?_
    refine sy_Fs (sy_aldn xc148_5 rfl rfl sy_refl) ?_
    refine sy_Fs (sy_ildn xc148_6 rfl rfl sy_refl) ?_
    refine sy_Fs (sx_bal (z := 4) xc148_7 (wh_at hw 15 rfl) (by decide) (by decide) e4) ?_
    refine sy_Fs (sx_i2l xc148_8 (by first | decide | assumption | omega | exact mo_rd_lt _ _ | exact mo_add_lt _ _ | exact mo_sub_lt _ _ | exact mo_mul_lt _ _ | exact mo_shl_lt _ _ | exact mo_ushr_lt _ _ | exact mo_or_lt (by decide) (mo_and_lt (mo_rd_lt _ _)) | exact mo_or_lt (mo_shl_lt _ _) (mo_and_lt (mo_rd_lt _ _)))) ?_
    refine sy_Fs (sy_lconst xc148_9 sy_refl) ?_
    refine sy_Fs (sy_ldc2 (v := 4) xc148_10 xk148_248 sy_refl) ?_
    refine sy_Fs (sy_callG (kd := 1) (as := [(1, 4, 0), (1, 1, 0), (1, 4, 0)]) (S0 := []) (ret := [(0, 1, 0)]) xc148_13 (sy_calS (as := [(1, 4, 0), (1, 1, 0), (1, 4, 0)]) (S0 := []) xm148_147 rfl rfl) rfl rfl rfl rfl (sy_oka (sy_oks_cons (sy_ok1 (by first | decide | assumption | omega | exact mo_rd_lt _ _ | exact mo_add_lt _ _ | exact mo_sub_lt _ _ | exact mo_mul_lt _ _ | exact mo_shl_lt _ _ | exact mo_ushr_lt _ _ | exact mo_or_lt (by decide) (mo_and_lt (mo_rd_lt _ _)) | exact mo_or_lt (mo_shl_lt _ _) (mo_and_lt (mo_rd_lt _ _)))) (sy_oks_cons (sy_ok1 (by first | decide | assumption | omega | exact mo_rd_lt _ _ | exact mo_add_lt _ _ | exact mo_sub_lt _ _ | exact mo_mul_lt _ _ | exact mo_shl_lt _ _ | exact mo_ushr_lt _ _ | exact mo_or_lt (by decide) (mo_and_lt (mo_rd_lt _ _)) | exact mo_or_lt (mo_shl_lt _ _) (mo_and_lt (mo_rd_lt _ _)))) (sy_oks_cons (sy_ok1 (by first | decide | assumption | omega | exact mo_rd_lt _ _ | exact mo_add_lt _ _ | exact mo_sub_lt _ _ | exact mo_mul_lt _ _ | exact mo_shl_lt _ _ | exact mo_ushr_lt _ _ | exact mo_or_lt (by decide) (mo_and_lt (mo_rd_lt _ _)) | exact mo_or_lt (mo_shl_lt _ _) (mo_and_lt (mo_rd_lt _ _)))) sy_oks_nil))) rfl xl98) (wr_in (n := n) (by first | decide | assumption | omega) (by first | decide | assumption | omega) (by first | decide | assumption | omega)) (by decide) (by rw [xl98]; decide) sy_refl) ?_
    refine sy_Fs (sy_ifne_t (pc' := 21) xc148_16 (by decide) (by decide) (by decide) (by decide) sy_refl) ?_
    refine sy_Fs (sy_ildn xc148_21 rfl rfl sy_refl) ?_
    refine sy_Fs (sy_iconst (v := 1) xc148_22 (by decide) sy_refl) ?_
    refine sy_Fs (sx_iadd (z := 1) xc148_23 (by decide)) ?_
    refine sy_Fs (sy_bipush (v := 33) xc148_24 (by decide) (by decide) sy_refl) ?_
    refine sy_Fs (sy_aldn xc148_26 rfl rfl sy_refl) ?_
    refine sy_Fs (sy_ildn xc148_27 rfl rfl sy_refl) ?_
    refine sy_Fs (sx_bal (z := 4) xc148_28 (wh_at hw 15 rfl) (by decide) (by decide) e4) ?_
    refine sy_Fs (sx_imul (z := 132) xc148_29 (by decide)) ?_
    refine sy_Fs (sx_iadd (z := 133) xc148_30 (by decide)) ?_
    refine sy_Fs (sx_istn (j := 3) (ls' := [(2, pl 15, 0), (0, 0, 0), (0, 28, 0), (0, 133, 0), (255, 0, 0), (255, 0, 0)]) xc148_31 rfl rfl (sy_ok0 (by first | decide | assumption | omega | exact mo_rd_lt _ _ | exact mo_add_lt _ _ | exact mo_sub_lt _ _ | exact mo_mul_lt _ _ | exact mo_shl_lt _ _ | exact mo_ushr_lt _ _ | exact mo_or_lt (by decide) (mo_and_lt (mo_rd_lt _ _)) | exact mo_or_lt (mo_shl_lt _ _) (mo_and_lt (mo_rd_lt _ _)))) (by rw [xl148]; rfl) rfl rfl) ?_
    refine sy_Fs (sy_ildn xc148_32 rfl rfl sy_refl) ?_
    refine sy_Fs (sy_ildn xc148_33 rfl rfl sy_refl) ?_
    refine sy_Fs (sy_ge_t (pc' := 51) xc148_34 (by decide) (by decide) (by decide) (by decide) sy_refl) ?_
    refine sy_Fs (sy_iconst (v := 0) xc148_51 (by decide) sy_refl) ?_
    exact sy_Fi xc148_52 xr148 rfl ⟨rfl, rfl⟩
theorem wr_readN (hw : wh 29 pl w0 w [(0, 0, 107, X0), (1, 1, 64, Pc), (1, 0, 64, mc_K), (1, 0, 64, Wd), (1, 0, 8, Vv), (1, 0, 8, St), (1, 0, 8, Af), (1, 1, 32, Mi), (1, 1, 4200, Hd), (1, 1, 105, Gv), (1, 1, 32, Gi), (1, 1, 1920, Hi), (1, 1, 1280, Bi), (1, 1, 6300, Hb), (1, 1, 3200, Fl), (1, 1, 1900, Of), (1, 1, 32, Ou), (1, 0, 40, Fs), (1, 0, 40, Bs), (1, 2, 60, Hf), (1, 2, 60, Hh), (1, 1, 76000, Bb), (1, 1, 2304, Oi), (1, 1, 2400, Ly), (1, 0, 60, Hw), (1, 0, 60, He), (1, 0, 60, Ht), (1, 0, 60, Ca), (1, 0, 2, Lu)]) (hX0 : fh X0 jR [(0, th, 0), (2, pl 1, 0), (2, pl 2, 0), (2, pl 3, 0), (2, pl 4, 0), (2, pl 5, 0), (2, pl 6, 0), (2, pl 7, 0), (0, up, 0), (1, lp, 0), (2, pl 8, 0), (2, pl 9, 0), (2, pl 10, 0), (2, pl 11, 0), (2, pl 12, 0), (2, pl 13, 0), (2, pl 14, 0), (2, pl 15, 0), (2, pl 16, 0), (2, pl 17, 0), (2, pl 18, 0), (2, pl 19, 0), (2, pl 20, 0), (2, pl 21, 0), (2, pl 22, 0), (2, pl 23, 0), (2, pl 24, 0), (2, pl 25, 0), (2, pl 26, 0), (2, pl 27, 0), (2, pl 28, 0), (0, 1, 0), (0, 1, 0), (0, oc, 0), (0, co, 0), (0, so, 0), (0, ms, 0), (0, bh, 0), (0, 0, 0)]) (hbad : mv_rd 32 Of 0 ≠ 0 ∨ (mv_rd 32 Of 0 = 0 ∧ mv_rd 32 Of 3 ≠ 1) ∨ (mv_rd 32 Of 0 = 0 ∧ mv_rd 32 Of 3 = 1 ∧ 1000000000 < wo_4 Of ∧ wo_4 Of < 2147483648) ∨ (mv_rd 32 Of 0 = 0 ∧ mv_rd 32 Of 3 = 1 ∧ 2147483648 ≤ wo_4 Of ∧ wo_4 Of < 4294967296)) : sy_D 147 n 2 50 [(2, pl 0, 0), (0, 28, 0)] w (fun ret _ => ret = [(0, 0, 0)]) := by
  refine sy_Dof (us := [(255, 0, 0), (255, 0, 0), (255, 0, 0)]) (sy_oks_cons (sy_ok2 (wh_lt hw 0 (by first | decide | assumption))) (sy_oks_cons (sy_ok0 (by first | decide | assumption | omega | exact mo_rd_lt _ _ | exact mo_add_lt _ _ | exact mo_sub_lt _ _ | exact mo_mul_lt _ _ | exact mo_shl_lt _ _ | exact mo_ushr_lt _ _ | exact mo_or_lt (by decide) (mo_and_lt (mo_rd_lt _ _)) | exact mo_or_lt (mo_shl_lt _ _) (mo_and_lt (mo_rd_lt _ _)))) sy_oks_nil)) rfl rfl ?_
  show sy_F 147 n 2 50 0 [(2, pl 0, 0), (0, 28, 0), (255, 0, 0), (255, 0, 0), (255, 0, 0)] [] w _
  rcases hbad with h0 | ⟨h0, h3⟩ | ⟨h0, h3, hg, hl⟩ | ⟨h0, h3, hn, hl⟩
  ·
    refine sy_Fs (sy_iconst (v := 0) xc147_0 (by decide) sy_refl) ?_
    refine sy_Fs (sx_istn (j := 2) (ls' := [(2, pl 0, 0), (0, 28, 0), (0, 0, 0), (255, 0, 0), (255, 0, 0)]) xc147_1 rfl rfl (sy_ok0 (by first | decide | assumption | omega | exact mo_rd_lt _ _ | exact mo_add_lt _ _ | exact mo_sub_lt _ _ | exact mo_mul_lt _ _ | exact mo_shl_lt _ _ | exact mo_ushr_lt _ _ | exact mo_or_lt (by decide) (mo_and_lt (mo_rd_lt _ _)) | exact mo_or_lt (mo_shl_lt _ _) (mo_and_lt (mo_rd_lt _ _)))) (by rw [xl147]; rfl) rfl rfl) ?_
    refine sy_Fs (sy_aldn xc147_2 rfl rfl sy_refl) ?_
    refine sy_Fs (sy_iconst (v := 0) xc147_3 (by decide) sy_refl) ?_
    refine sy_Ff (i := 0) (q := 33) (v := (0, 0, 0)) hw hX0 (by decide) (by decide) rfl (sy_ok0 (by first | decide | assumption | omega | exact mo_rd_lt _ _ | exact mo_add_lt _ _ | exact mo_sub_lt _ _ | exact mo_mul_lt _ _ | exact mo_shl_lt _ _ | exact mo_ushr_lt _ _ | exact mo_or_lt (by decide) (mo_and_lt (mo_rd_lt _ _)) | exact mo_or_lt (mo_shl_lt _ _) (mo_and_lt (mo_rd_lt _ _)))) (sy_pfi xc147_4 xf147_681 rfl xt0_74 xn0_74 (wh_at hw 0 rfl) rfl (by first | decide | assumption | omega | exact mo_rd_lt _ _ | exact mo_add_lt _ _ | exact mo_sub_lt _ _ | exact mo_mul_lt _ _ | exact mo_shl_lt _ _ | exact mo_ushr_lt _ _ | exact mo_or_lt (by decide) (mo_and_lt (mo_rd_lt _ _)) | exact mo_or_lt (mo_shl_lt _ _) (mo_and_lt (mo_rd_lt _ _))) rfl sy_refl) ?_
    intro w X0 hw hX0
    simp only [List.set_cons_zero, List.set_cons_succ] at hw hX0
    refine sy_Fs (sy_ildn xc147_7 rfl rfl sy_refl) ?_
    refine sy_Fs (sy_ildn xc147_8 rfl rfl sy_refl) ?_
    refine sy_Fs (sy_ge_f xc147_9 (by decide) (by decide) (by decide) sy_refl) ?_
    refine sy_Fs (sy_aldn xc147_12 rfl rfl sy_refl) ?_
    refine sy_Fs (sy_gf xc147_13 xf147_469 rfl (wh_at hw 0 rfl) rfl (fh_at hX0 17 rfl rfl) sy_refl) ?_
    refine sy_Fs (sy_ildn xc147_16 rfl rfl sy_refl) ?_
    refine sy_Fs (sy_ildn xc147_17 rfl rfl sy_refl) ?_
    refine sy_Fs (sy_callG (kd := 1) (as := [(2, pl 15, 0), (0, 0, 0), (0, 28, 0)]) (S0 := []) (ret := [(0, 0, 0)]) xc147_18 (sy_calS (as := [(2, pl 15, 0), (0, 0, 0), (0, 28, 0)]) (S0 := []) xm147_684 rfl rfl) rfl rfl rfl rfl (sy_oka (sy_oks_cons (sy_ok2 (wh_lt hw 15 (by first | decide | assumption))) (sy_oks_cons (sy_ok0 (by first | decide | assumption | omega | exact mo_rd_lt _ _ | exact mo_add_lt _ _ | exact mo_sub_lt _ _ | exact mo_mul_lt _ _ | exact mo_shl_lt _ _ | exact mo_ushr_lt _ _ | exact mo_or_lt (by decide) (mo_and_lt (mo_rd_lt _ _)) | exact mo_or_lt (mo_shl_lt _ _) (mo_and_lt (mo_rd_lt _ _)))) (sy_oks_cons (sy_ok0 (by first | decide | assumption | omega | exact mo_rd_lt _ _ | exact mo_add_lt _ _ | exact mo_sub_lt _ _ | exact mo_mul_lt _ _ | exact mo_shl_lt _ _ | exact mo_ushr_lt _ _ | exact mo_or_lt (by decide) (mo_and_lt (mo_rd_lt _ _)) | exact mo_or_lt (mo_shl_lt _ _) (mo_and_lt (mo_rd_lt _ _)))) sy_oks_nil))) rfl xl148) (sy_Cw (wr_plainN (n := n) hw hX0 h0)) (by decide) (by rw [xl148]; decide) sy_refl) ?_
    refine sy_Fs (sx_istn (j := 3) (ls' := [(2, pl 0, 0), (0, 28, 0), (0, 0, 0), (0, 0, 0), (255, 0, 0)]) xc147_21 rfl rfl (sy_ok0 (by first | decide | assumption | omega | exact mo_rd_lt _ _ | exact mo_add_lt _ _ | exact mo_sub_lt _ _ | exact mo_mul_lt _ _ | exact mo_shl_lt _ _ | exact mo_ushr_lt _ _ | exact mo_or_lt (by decide) (mo_and_lt (mo_rd_lt _ _)) | exact mo_or_lt (mo_shl_lt _ _) (mo_and_lt (mo_rd_lt _ _)))) (by rw [xl147]; rfl) rfl rfl) ?_
    refine sy_Fs (sy_ildn xc147_22 rfl rfl sy_refl) ?_
    refine sy_Fs (sy_bipush (v := 97) xc147_23 (by decide) (by decide) sy_refl) ?_
    refine sy_Fs (sy_aldn xc147_25 rfl rfl sy_refl) ?_
    refine sy_Fs (sy_gf xc147_26 xf147_469 rfl (wh_at hw 0 rfl) rfl (fh_at hX0 17 rfl rfl) sy_refl) ?_
    refine sy_Fs (sy_ildn xc147_29 rfl rfl sy_refl) ?_
    refine sy_Fs (sx_bal (z := (mv_rd 32 Of 0)) xc147_30 (wh_at hw 15 rfl) (by decide) (by decide) rfl) ?_
    refine sy_Fs (sx_imul (z := (mo_mul 97 (mv_rd 32 Of 0))) xc147_31 rfl) ?_
    refine sy_Fs (sx_iadd (z := (mo_add 0 (mo_mul 97 (mv_rd 32 Of 0)))) xc147_32 rfl) ?_
    refine sy_Fs (sx_ist (j := 4) (ls' := [(2, pl 0, 0), (0, 28, 0), (0, 0, 0), (0, 0, 0), (0, (mo_add 0 (mo_mul 97 (mv_rd 32 Of 0))), 0)]) xc147_33 rfl (sy_ok0 (by first | decide | assumption | omega | exact mo_rd_lt _ _ | exact mo_add_lt _ _ | exact mo_sub_lt _ _ | exact mo_mul_lt _ _ | exact mo_shl_lt _ _ | exact mo_ushr_lt _ _ | exact mo_or_lt (by decide) (mo_and_lt (mo_rd_lt _ _)) | exact mo_or_lt (mo_shl_lt _ _) (mo_and_lt (mo_rd_lt _ _)))) (by rw [xl147]; rfl) rfl rfl) ?_
    refine sy_Fs (sy_aldn xc147_35 rfl rfl sy_refl) ?_
    refine sy_Fs (sy_gf xc147_36 xf147_469 rfl (wh_at hw 0 rfl) rfl (fh_at hX0 17 rfl rfl) sy_refl) ?_
    refine sy_Fs (sy_ildn xc147_39 rfl rfl sy_refl) ?_
    refine sy_Fs (sx_bal (z := (mv_rd 32 Of 0)) xc147_40 (wh_at hw 15 rfl) (by decide) (by decide) rfl) ?_
    refine sy_Fs (sy_ifne_t (pc' := 95) xc147_41 (by decide) h0 (mo_rd_lt _ _) (by decide) sy_refl) ?_
    refine sy_Fs (sy_ildn xc147_95 rfl rfl sy_refl) ?_
    refine sy_Fs (sy_ifeq_t (pc' := 116) xc147_96 (by decide) (by decide) (by decide) sy_refl) ?_
    refine sy_Fs (sy_iconst (v := 0) xc147_116 (by decide) sy_refl) ?_
    exact sy_Fz xc147_117 xr147 (by first | decide | assumption | omega) rfl
  ·
    refine sy_Fs (sy_iconst (v := 0) xc147_0 (by decide) sy_refl) ?_
    refine sy_Fs (sx_istn (j := 2) (ls' := [(2, pl 0, 0), (0, 28, 0), (0, 0, 0), (255, 0, 0), (255, 0, 0)]) xc147_1 rfl rfl (sy_ok0 (by first | decide | assumption | omega | exact mo_rd_lt _ _ | exact mo_add_lt _ _ | exact mo_sub_lt _ _ | exact mo_mul_lt _ _ | exact mo_shl_lt _ _ | exact mo_ushr_lt _ _ | exact mo_or_lt (by decide) (mo_and_lt (mo_rd_lt _ _)) | exact mo_or_lt (mo_shl_lt _ _) (mo_and_lt (mo_rd_lt _ _)))) (by rw [xl147]; rfl) rfl rfl) ?_
    refine sy_Fs (sy_aldn xc147_2 rfl rfl sy_refl) ?_
    refine sy_Fs (sy_iconst (v := 0) xc147_3 (by decide) sy_refl) ?_
    refine sy_Ff (i := 0) (q := 33) (v := (0, 0, 0)) hw hX0 (by decide) (by decide) rfl (sy_ok0 (by first | decide | assumption | omega | exact mo_rd_lt _ _ | exact mo_add_lt _ _ | exact mo_sub_lt _ _ | exact mo_mul_lt _ _ | exact mo_shl_lt _ _ | exact mo_ushr_lt _ _ | exact mo_or_lt (by decide) (mo_and_lt (mo_rd_lt _ _)) | exact mo_or_lt (mo_shl_lt _ _) (mo_and_lt (mo_rd_lt _ _)))) (sy_pfi xc147_4 xf147_681 rfl xt0_74 xn0_74 (wh_at hw 0 rfl) rfl (by first | decide | assumption | omega | exact mo_rd_lt _ _ | exact mo_add_lt _ _ | exact mo_sub_lt _ _ | exact mo_mul_lt _ _ | exact mo_shl_lt _ _ | exact mo_ushr_lt _ _ | exact mo_or_lt (by decide) (mo_and_lt (mo_rd_lt _ _)) | exact mo_or_lt (mo_shl_lt _ _) (mo_and_lt (mo_rd_lt _ _))) rfl sy_refl) ?_
    intro w X0 hw hX0
    simp only [List.set_cons_zero, List.set_cons_succ] at hw hX0
    refine sy_Fs (sy_ildn xc147_7 rfl rfl sy_refl) ?_
    refine sy_Fs (sy_ildn xc147_8 rfl rfl sy_refl) ?_
    refine sy_Fs (sy_ge_f xc147_9 (by decide) (by decide) (by decide) sy_refl) ?_
    refine sy_Fs (sy_aldn xc147_12 rfl rfl sy_refl) ?_
    refine sy_Fs (sy_gf xc147_13 xf147_469 rfl (wh_at hw 0 rfl) rfl (fh_at hX0 17 rfl rfl) sy_refl) ?_
    refine sy_Fs (sy_ildn xc147_16 rfl rfl sy_refl) ?_
    refine sy_Fs (sy_ildn xc147_17 rfl rfl sy_refl) ?_
    refine sy_Fs (sy_callG (kd := 1) (as := [(2, pl 15, 0), (0, 0, 0), (0, 28, 0)]) (S0 := []) (ret := [(0, 0, 0)]) xc147_18 (sy_calS (as := [(2, pl 15, 0), (0, 0, 0), (0, 28, 0)]) (S0 := []) xm147_684 rfl rfl) rfl rfl rfl rfl (sy_oka (sy_oks_cons (sy_ok2 (wh_lt hw 15 (by first | decide | assumption))) (sy_oks_cons (sy_ok0 (by first | decide | assumption | omega | exact mo_rd_lt _ _ | exact mo_add_lt _ _ | exact mo_sub_lt _ _ | exact mo_mul_lt _ _ | exact mo_shl_lt _ _ | exact mo_ushr_lt _ _ | exact mo_or_lt (by decide) (mo_and_lt (mo_rd_lt _ _)) | exact mo_or_lt (mo_shl_lt _ _) (mo_and_lt (mo_rd_lt _ _)))) (sy_oks_cons (sy_ok0 (by first | decide | assumption | omega | exact mo_rd_lt _ _ | exact mo_add_lt _ _ | exact mo_sub_lt _ _ | exact mo_mul_lt _ _ | exact mo_shl_lt _ _ | exact mo_ushr_lt _ _ | exact mo_or_lt (by decide) (mo_and_lt (mo_rd_lt _ _)) | exact mo_or_lt (mo_shl_lt _ _) (mo_and_lt (mo_rd_lt _ _)))) sy_oks_nil))) rfl xl148) (sy_Cw (wr_plain (n := n) hw hX0 h0)) (by decide) (by rw [xl148]; decide) sy_refl) ?_
    refine sy_Fs (sx_istn (j := 3) (ls' := [(2, pl 0, 0), (0, 28, 0), (0, 0, 0), (0, 0, 0), (255, 0, 0)]) xc147_21 rfl rfl (sy_ok0 (by first | decide | assumption | omega | exact mo_rd_lt _ _ | exact mo_add_lt _ _ | exact mo_sub_lt _ _ | exact mo_mul_lt _ _ | exact mo_shl_lt _ _ | exact mo_ushr_lt _ _ | exact mo_or_lt (by decide) (mo_and_lt (mo_rd_lt _ _)) | exact mo_or_lt (mo_shl_lt _ _) (mo_and_lt (mo_rd_lt _ _)))) (by rw [xl147]; rfl) rfl rfl) ?_
    refine sy_Fs (sy_ildn xc147_22 rfl rfl sy_refl) ?_
    refine sy_Fs (sy_bipush (v := 97) xc147_23 (by decide) (by decide) sy_refl) ?_
    refine sy_Fs (sy_aldn xc147_25 rfl rfl sy_refl) ?_
    refine sy_Fs (sy_gf xc147_26 xf147_469 rfl (wh_at hw 0 rfl) rfl (fh_at hX0 17 rfl rfl) sy_refl) ?_
    refine sy_Fs (sy_ildn xc147_29 rfl rfl sy_refl) ?_
    refine sy_Fs (sx_bal (z := 0) xc147_30 (wh_at hw 15 rfl) (by decide) (by decide) h0) ?_
    refine sy_Fs (sx_imul (z := 0) xc147_31 (by decide)) ?_
    refine sy_Fs (sx_iadd (z := 0) xc147_32 (by decide)) ?_
    refine sy_Fs (sx_ist (j := 4) (ls' := [(2, pl 0, 0), (0, 28, 0), (0, 0, 0), (0, 0, 0), (0, 0, 0)]) xc147_33 rfl (sy_ok0 (by first | decide | assumption | omega | exact mo_rd_lt _ _ | exact mo_add_lt _ _ | exact mo_sub_lt _ _ | exact mo_mul_lt _ _ | exact mo_shl_lt _ _ | exact mo_ushr_lt _ _ | exact mo_or_lt (by decide) (mo_and_lt (mo_rd_lt _ _)) | exact mo_or_lt (mo_shl_lt _ _) (mo_and_lt (mo_rd_lt _ _)))) (by rw [xl147]; rfl) rfl rfl) ?_
    refine sy_Fs (sy_aldn xc147_35 rfl rfl sy_refl) ?_
    refine sy_Fs (sy_gf xc147_36 xf147_469 rfl (wh_at hw 0 rfl) rfl (fh_at hX0 17 rfl rfl) sy_refl) ?_
    refine sy_Fs (sy_ildn xc147_39 rfl rfl sy_refl) ?_
    refine sy_Fs (sx_bal (z := 0) xc147_40 (wh_at hw 15 rfl) (by decide) (by decide) h0) ?_
    refine sy_Fs (sy_ifne_f xc147_41 (by decide) (by decide) sy_refl) ?_
    refine sy_Fs (sy_ildn xc147_44 rfl rfl sy_refl) ?_
    refine sy_Fs (sy_bipush (v := 28) xc147_45 (by decide) (by decide) sy_refl) ?_
    refine sy_Fs (sx_iadd (z := 28) xc147_47 (by decide)) ?_
    refine sy_Fs (sy_ildn xc147_48 rfl rfl sy_refl) ?_
    refine sy_Fs (sy_icmpgt_f xc147_49 (by decide) (by decide) (by decide) sy_refl) ?_
    refine sy_Fs (sy_aldn xc147_52 rfl rfl sy_refl) ?_
    refine sy_Fs (sy_gf xc147_53 xf147_469 rfl (wh_at hw 0 rfl) rfl (fh_at hX0 17 rfl rfl) sy_refl) ?_
    refine sy_Fs (sy_ildn xc147_56 rfl rfl sy_refl) ?_
    refine sy_Fs (sy_iconst (v := 3) xc147_57 (by decide) sy_refl) ?_
    refine sy_Fs (sx_iadd (z := 3) xc147_58 (by decide)) ?_
    refine sy_Fs (sx_bal (z := (mv_rd 32 Of 3)) xc147_59 (wh_at hw 15 rfl) (by decide) (by decide) rfl) ?_
    refine sy_Fs (sy_iconst (v := 1) xc147_60 (by decide) sy_refl) ?_
    refine sy_Fs (sy_icmpne_t (pc' := 90) xc147_61 (by decide) h3 (mo_rd_lt _ _) (by decide) (by decide) sy_refl) ?_
    refine sy_Fs (sy_iconst (v := 0) xc147_90 (by decide) sy_refl) ?_
    refine sy_Fs (sx_istn (j := 3) (ls' := [(2, pl 0, 0), (0, 28, 0), (0, 0, 0), (0, 0, 0), (0, 0, 0)]) xc147_91 rfl rfl (sy_ok0 (by first | decide | assumption | omega | exact mo_rd_lt _ _ | exact mo_add_lt _ _ | exact mo_sub_lt _ _ | exact mo_mul_lt _ _ | exact mo_shl_lt _ _ | exact mo_ushr_lt _ _ | exact mo_or_lt (by decide) (mo_and_lt (mo_rd_lt _ _)) | exact mo_or_lt (mo_shl_lt _ _) (mo_and_lt (mo_rd_lt _ _)))) (by rw [xl147]; rfl) rfl rfl) ?_
    refine sy_Fs (sy_ildn xc147_92 rfl rfl sy_refl) ?_
    refine sy_Fs (sx_ist (j := 4) (ls' := [(2, pl 0, 0), (0, 28, 0), (0, 0, 0), (0, 0, 0), (0, 0, 0)]) xc147_93 rfl (sy_ok0 (by first | decide | assumption | omega | exact mo_rd_lt _ _ | exact mo_add_lt _ _ | exact mo_sub_lt _ _ | exact mo_mul_lt _ _ | exact mo_shl_lt _ _ | exact mo_ushr_lt _ _ | exact mo_or_lt (by decide) (mo_and_lt (mo_rd_lt _ _)) | exact mo_or_lt (mo_shl_lt _ _) (mo_and_lt (mo_rd_lt _ _)))) (by rw [xl147]; rfl) rfl rfl) ?_
    refine sy_Fs (sy_ildn xc147_95 rfl rfl sy_refl) ?_
    refine sy_Fs (sy_ifeq_t (pc' := 116) xc147_96 (by decide) (by decide) (by decide) sy_refl) ?_
    refine sy_Fs (sy_iconst (v := 0) xc147_116 (by decide) sy_refl) ?_
    exact sy_Fz xc147_117 xr147 (by first | decide | assumption | omega) rfl
  ·
    refine sy_Fs (sy_iconst (v := 0) xc147_0 (by decide) sy_refl) ?_
    refine sy_Fs (sx_istn (j := 2) (ls' := [(2, pl 0, 0), (0, 28, 0), (0, 0, 0), (255, 0, 0), (255, 0, 0)]) xc147_1 rfl rfl (sy_ok0 (by first | decide | assumption | omega | exact mo_rd_lt _ _ | exact mo_add_lt _ _ | exact mo_sub_lt _ _ | exact mo_mul_lt _ _ | exact mo_shl_lt _ _ | exact mo_ushr_lt _ _ | exact mo_or_lt (by decide) (mo_and_lt (mo_rd_lt _ _)) | exact mo_or_lt (mo_shl_lt _ _) (mo_and_lt (mo_rd_lt _ _)))) (by rw [xl147]; rfl) rfl rfl) ?_
    refine sy_Fs (sy_aldn xc147_2 rfl rfl sy_refl) ?_
    refine sy_Fs (sy_iconst (v := 0) xc147_3 (by decide) sy_refl) ?_
    refine sy_Ff (i := 0) (q := 33) (v := (0, 0, 0)) hw hX0 (by decide) (by decide) rfl (sy_ok0 (by first | decide | assumption | omega | exact mo_rd_lt _ _ | exact mo_add_lt _ _ | exact mo_sub_lt _ _ | exact mo_mul_lt _ _ | exact mo_shl_lt _ _ | exact mo_ushr_lt _ _ | exact mo_or_lt (by decide) (mo_and_lt (mo_rd_lt _ _)) | exact mo_or_lt (mo_shl_lt _ _) (mo_and_lt (mo_rd_lt _ _)))) (sy_pfi xc147_4 xf147_681 rfl xt0_74 xn0_74 (wh_at hw 0 rfl) rfl (by first | decide | assumption | omega | exact mo_rd_lt _ _ | exact mo_add_lt _ _ | exact mo_sub_lt _ _ | exact mo_mul_lt _ _ | exact mo_shl_lt _ _ | exact mo_ushr_lt _ _ | exact mo_or_lt (by decide) (mo_and_lt (mo_rd_lt _ _)) | exact mo_or_lt (mo_shl_lt _ _) (mo_and_lt (mo_rd_lt _ _))) rfl sy_refl) ?_
    intro w X0 hw hX0
    simp only [List.set_cons_zero, List.set_cons_succ] at hw hX0
    refine sy_Fs (sy_ildn xc147_7 rfl rfl sy_refl) ?_
    refine sy_Fs (sy_ildn xc147_8 rfl rfl sy_refl) ?_
    refine sy_Fs (sy_ge_f xc147_9 (by decide) (by decide) (by decide) sy_refl) ?_
    refine sy_Fs (sy_aldn xc147_12 rfl rfl sy_refl) ?_
    refine sy_Fs (sy_gf xc147_13 xf147_469 rfl (wh_at hw 0 rfl) rfl (fh_at hX0 17 rfl rfl) sy_refl) ?_
    refine sy_Fs (sy_ildn xc147_16 rfl rfl sy_refl) ?_
    refine sy_Fs (sy_ildn xc147_17 rfl rfl sy_refl) ?_
    refine sy_Fs (sy_callG (kd := 1) (as := [(2, pl 15, 0), (0, 0, 0), (0, 28, 0)]) (S0 := []) (ret := [(0, 0, 0)]) xc147_18 (sy_calS (as := [(2, pl 15, 0), (0, 0, 0), (0, 28, 0)]) (S0 := []) xm147_684 rfl rfl) rfl rfl rfl rfl (sy_oka (sy_oks_cons (sy_ok2 (wh_lt hw 15 (by first | decide | assumption))) (sy_oks_cons (sy_ok0 (by first | decide | assumption | omega | exact mo_rd_lt _ _ | exact mo_add_lt _ _ | exact mo_sub_lt _ _ | exact mo_mul_lt _ _ | exact mo_shl_lt _ _ | exact mo_ushr_lt _ _ | exact mo_or_lt (by decide) (mo_and_lt (mo_rd_lt _ _)) | exact mo_or_lt (mo_shl_lt _ _) (mo_and_lt (mo_rd_lt _ _)))) (sy_oks_cons (sy_ok0 (by first | decide | assumption | omega | exact mo_rd_lt _ _ | exact mo_add_lt _ _ | exact mo_sub_lt _ _ | exact mo_mul_lt _ _ | exact mo_shl_lt _ _ | exact mo_ushr_lt _ _ | exact mo_or_lt (by decide) (mo_and_lt (mo_rd_lt _ _)) | exact mo_or_lt (mo_shl_lt _ _) (mo_and_lt (mo_rd_lt _ _)))) sy_oks_nil))) rfl xl148) (sy_Cw (wr_plain (n := n) hw hX0 h0)) (by decide) (by rw [xl148]; decide) sy_refl) ?_
    refine sy_Fs (sx_istn (j := 3) (ls' := [(2, pl 0, 0), (0, 28, 0), (0, 0, 0), (0, 0, 0), (255, 0, 0)]) xc147_21 rfl rfl (sy_ok0 (by first | decide | assumption | omega | exact mo_rd_lt _ _ | exact mo_add_lt _ _ | exact mo_sub_lt _ _ | exact mo_mul_lt _ _ | exact mo_shl_lt _ _ | exact mo_ushr_lt _ _ | exact mo_or_lt (by decide) (mo_and_lt (mo_rd_lt _ _)) | exact mo_or_lt (mo_shl_lt _ _) (mo_and_lt (mo_rd_lt _ _)))) (by rw [xl147]; rfl) rfl rfl) ?_
    refine sy_Fs (sy_ildn xc147_22 rfl rfl sy_refl) ?_
    refine sy_Fs (sy_bipush (v := 97) xc147_23 (by decide) (by decide) sy_refl) ?_
    refine sy_Fs (sy_aldn xc147_25 rfl rfl sy_refl) ?_
    refine sy_Fs (sy_gf xc147_26 xf147_469 rfl (wh_at hw 0 rfl) rfl (fh_at hX0 17 rfl rfl) sy_refl) ?_
    refine sy_Fs (sy_ildn xc147_29 rfl rfl sy_refl) ?_
    refine sy_Fs (sx_bal (z := 0) xc147_30 (wh_at hw 15 rfl) (by decide) (by decide) h0) ?_
    refine sy_Fs (sx_imul (z := 0) xc147_31 (by decide)) ?_
    refine sy_Fs (sx_iadd (z := 0) xc147_32 (by decide)) ?_
    refine sy_Fs (sx_ist (j := 4) (ls' := [(2, pl 0, 0), (0, 28, 0), (0, 0, 0), (0, 0, 0), (0, 0, 0)]) xc147_33 rfl (sy_ok0 (by first | decide | assumption | omega | exact mo_rd_lt _ _ | exact mo_add_lt _ _ | exact mo_sub_lt _ _ | exact mo_mul_lt _ _ | exact mo_shl_lt _ _ | exact mo_ushr_lt _ _ | exact mo_or_lt (by decide) (mo_and_lt (mo_rd_lt _ _)) | exact mo_or_lt (mo_shl_lt _ _) (mo_and_lt (mo_rd_lt _ _)))) (by rw [xl147]; rfl) rfl rfl) ?_
    refine sy_Fs (sy_aldn xc147_35 rfl rfl sy_refl) ?_
    refine sy_Fs (sy_gf xc147_36 xf147_469 rfl (wh_at hw 0 rfl) rfl (fh_at hX0 17 rfl rfl) sy_refl) ?_
    refine sy_Fs (sy_ildn xc147_39 rfl rfl sy_refl) ?_
    refine sy_Fs (sx_bal (z := 0) xc147_40 (wh_at hw 15 rfl) (by decide) (by decide) h0) ?_
    refine sy_Fs (sy_ifne_f xc147_41 (by decide) (by decide) sy_refl) ?_
    refine sy_Fs (sy_ildn xc147_44 rfl rfl sy_refl) ?_
    refine sy_Fs (sy_bipush (v := 28) xc147_45 (by decide) (by decide) sy_refl) ?_
    refine sy_Fs (sx_iadd (z := 28) xc147_47 (by decide)) ?_
    refine sy_Fs (sy_ildn xc147_48 rfl rfl sy_refl) ?_
    refine sy_Fs (sy_icmpgt_f xc147_49 (by decide) (by decide) (by decide) sy_refl) ?_
    refine sy_Fs (sy_aldn xc147_52 rfl rfl sy_refl) ?_
    refine sy_Fs (sy_gf xc147_53 xf147_469 rfl (wh_at hw 0 rfl) rfl (fh_at hX0 17 rfl rfl) sy_refl) ?_
    refine sy_Fs (sy_ildn xc147_56 rfl rfl sy_refl) ?_
    refine sy_Fs (sy_iconst (v := 3) xc147_57 (by decide) sy_refl) ?_
    refine sy_Fs (sx_iadd (z := 3) xc147_58 (by decide)) ?_
    refine sy_Fs (sx_bal (z := 1) xc147_59 (wh_at hw 15 rfl) (by decide) (by decide) h3) ?_
    refine sy_Fs (sy_iconst (v := 1) xc147_60 (by decide) sy_refl) ?_
    refine sy_Fs (sy_icmpne_f xc147_61 (by decide) (by decide) sy_refl) ?_
    refine sy_Fs (sy_aldn xc147_64 rfl rfl sy_refl) ?_
    refine sy_Fs (sy_gf xc147_65 xf147_469 rfl (wh_at hw 0 rfl) rfl (fh_at hX0 17 rfl rfl) sy_refl) ?_
    refine sy_Fs (sy_ildn xc147_68 rfl rfl sy_refl) ?_
    refine sy_Fs (sy_iconst (v := 4) xc147_69 (by decide) sy_refl) ?_
    refine sy_Fs (sx_iadd (z := 4) xc147_70 (by decide)) ?_
    refine sy_Fs (sy_callG (kd := 1) (as := [(2, pl 15, 0), (0, 4, 0)]) (S0 := []) (ret := [(0, (wo_4 Of), 0)]) xc147_71 (sy_calS (as := [(2, pl 15, 0), (0, 4, 0)]) (S0 := []) xm147_164 rfl rfl) rfl rfl rfl rfl (sy_oka (sy_oks_cons (sy_ok2 (wh_lt hw 15 (by first | decide | assumption))) (sy_oks_cons (sy_ok0 (by first | decide | assumption | omega | exact mo_rd_lt _ _ | exact mo_add_lt _ _ | exact mo_sub_lt _ _ | exact mo_mul_lt _ _ | exact mo_shl_lt _ _ | exact mo_ushr_lt _ _ | exact mo_or_lt (by decide) (mo_and_lt (mo_rd_lt _ _)) | exact mo_or_lt (mo_shl_lt _ _) (mo_and_lt (mo_rd_lt _ _)))) sy_oks_nil)) rfl xl108) (sy_Cw (wr_word (n := n) hw hX0)) (by decide) (by rw [xl108]; decide) sy_refl) ?_
    refine sy_Fs (sx_i2l xc147_74 (by first | decide | assumption | omega | exact mo_rd_lt _ _ | exact mo_add_lt _ _ | exact mo_sub_lt _ _ | exact mo_mul_lt _ _ | exact mo_shl_lt _ _ | exact mo_ushr_lt _ _ | exact mo_or_lt (by decide) (mo_and_lt (mo_rd_lt _ _)) | exact mo_or_lt (mo_shl_lt _ _) (mo_and_lt (mo_rd_lt _ _)))) ?_
    refine sy_Fs (sy_lconst xc147_75 sy_refl) ?_
    refine sy_Fs (sy_ldc2 (v := 1000000000) xc147_76 xk147_252 sy_refl) ?_
    refine sy_Fs (sy_callG (kd := 1) (as := [(1, (wo_4 Of), 0), (1, 1, 0), (1, 1000000000, 0)]) (S0 := []) (ret := [(0, 0, 0)]) xc147_79 (sy_calS (as := [(1, (wo_4 Of), 0), (1, 1, 0), (1, 1000000000, 0)]) (S0 := []) xm147_147 rfl rfl) rfl rfl rfl rfl (sy_oka (sy_oks_cons (sy_ok1 (by first | decide | assumption | omega | exact mo_rd_lt _ _ | exact mo_add_lt _ _ | exact mo_sub_lt _ _ | exact mo_mul_lt _ _ | exact mo_shl_lt _ _ | exact mo_ushr_lt _ _ | exact mo_or_lt (by decide) (mo_and_lt (mo_rd_lt _ _)) | exact mo_or_lt (mo_shl_lt _ _) (mo_and_lt (mo_rd_lt _ _)))) (sy_oks_cons (sy_ok1 (by first | decide | assumption | omega | exact mo_rd_lt _ _ | exact mo_add_lt _ _ | exact mo_sub_lt _ _ | exact mo_mul_lt _ _ | exact mo_shl_lt _ _ | exact mo_ushr_lt _ _ | exact mo_or_lt (by decide) (mo_and_lt (mo_rd_lt _ _)) | exact mo_or_lt (mo_shl_lt _ _) (mo_and_lt (mo_rd_lt _ _)))) (sy_oks_cons (sy_ok1 (by first | decide | assumption | omega | exact mo_rd_lt _ _ | exact mo_add_lt _ _ | exact mo_sub_lt _ _ | exact mo_mul_lt _ _ | exact mo_shl_lt _ _ | exact mo_ushr_lt _ _ | exact mo_or_lt (by decide) (mo_and_lt (mo_rd_lt _ _)) | exact mo_or_lt (mo_shl_lt _ _) (mo_and_lt (mo_rd_lt _ _)))) sy_oks_nil))) rfl xl98) (wr_inG (n := n) (by omega) (by omega) hl) (by decide) (by rw [xl98]; decide) sy_refl) ?_
    refine sy_Fs (sy_ifeq_t (pc' := 90) xc147_82 (by decide) (by decide) (by decide) sy_refl) ?_
    refine sy_Fs (sy_iconst (v := 0) xc147_90 (by decide) sy_refl) ?_
    refine sy_Fs (sx_istn (j := 3) (ls' := [(2, pl 0, 0), (0, 28, 0), (0, 0, 0), (0, 0, 0), (0, 0, 0)]) xc147_91 rfl rfl (sy_ok0 (by first | decide | assumption | omega | exact mo_rd_lt _ _ | exact mo_add_lt _ _ | exact mo_sub_lt _ _ | exact mo_mul_lt _ _ | exact mo_shl_lt _ _ | exact mo_ushr_lt _ _ | exact mo_or_lt (by decide) (mo_and_lt (mo_rd_lt _ _)) | exact mo_or_lt (mo_shl_lt _ _) (mo_and_lt (mo_rd_lt _ _)))) (by rw [xl147]; rfl) rfl rfl) ?_
    refine sy_Fs (sy_ildn xc147_92 rfl rfl sy_refl) ?_
    refine sy_Fs (sx_ist (j := 4) (ls' := [(2, pl 0, 0), (0, 28, 0), (0, 0, 0), (0, 0, 0), (0, 0, 0)]) xc147_93 rfl (sy_ok0 (by first | decide | assumption | omega | exact mo_rd_lt _ _ | exact mo_add_lt _ _ | exact mo_sub_lt _ _ | exact mo_mul_lt _ _ | exact mo_shl_lt _ _ | exact mo_ushr_lt _ _ | exact mo_or_lt (by decide) (mo_and_lt (mo_rd_lt _ _)) | exact mo_or_lt (mo_shl_lt _ _) (mo_and_lt (mo_rd_lt _ _)))) (by rw [xl147]; rfl) rfl rfl) ?_
    refine sy_Fs (sy_ildn xc147_95 rfl rfl sy_refl) ?_
    refine sy_Fs (sy_ifeq_t (pc' := 116) xc147_96 (by decide) (by decide) (by decide) sy_refl) ?_
    refine sy_Fs (sy_iconst (v := 0) xc147_116 (by decide) sy_refl) ?_
    exact sy_Fz xc147_117 xr147 (by first | decide | assumption | omega) rfl
  ·
    refine sy_Fs (sy_iconst (v := 0) xc147_0 (by decide) sy_refl) ?_
    refine sy_Fs (sx_istn (j := 2) (ls' := [(2, pl 0, 0), (0, 28, 0), (0, 0, 0), (255, 0, 0), (255, 0, 0)]) xc147_1 rfl rfl (sy_ok0 (by first | decide | assumption | omega | exact mo_rd_lt _ _ | exact mo_add_lt _ _ | exact mo_sub_lt _ _ | exact mo_mul_lt _ _ | exact mo_shl_lt _ _ | exact mo_ushr_lt _ _ | exact mo_or_lt (by decide) (mo_and_lt (mo_rd_lt _ _)) | exact mo_or_lt (mo_shl_lt _ _) (mo_and_lt (mo_rd_lt _ _)))) (by rw [xl147]; rfl) rfl rfl) ?_
    refine sy_Fs (sy_aldn xc147_2 rfl rfl sy_refl) ?_
    refine sy_Fs (sy_iconst (v := 0) xc147_3 (by decide) sy_refl) ?_
    refine sy_Ff (i := 0) (q := 33) (v := (0, 0, 0)) hw hX0 (by decide) (by decide) rfl (sy_ok0 (by first | decide | assumption | omega | exact mo_rd_lt _ _ | exact mo_add_lt _ _ | exact mo_sub_lt _ _ | exact mo_mul_lt _ _ | exact mo_shl_lt _ _ | exact mo_ushr_lt _ _ | exact mo_or_lt (by decide) (mo_and_lt (mo_rd_lt _ _)) | exact mo_or_lt (mo_shl_lt _ _) (mo_and_lt (mo_rd_lt _ _)))) (sy_pfi xc147_4 xf147_681 rfl xt0_74 xn0_74 (wh_at hw 0 rfl) rfl (by first | decide | assumption | omega | exact mo_rd_lt _ _ | exact mo_add_lt _ _ | exact mo_sub_lt _ _ | exact mo_mul_lt _ _ | exact mo_shl_lt _ _ | exact mo_ushr_lt _ _ | exact mo_or_lt (by decide) (mo_and_lt (mo_rd_lt _ _)) | exact mo_or_lt (mo_shl_lt _ _) (mo_and_lt (mo_rd_lt _ _))) rfl sy_refl) ?_
    intro w X0 hw hX0
    simp only [List.set_cons_zero, List.set_cons_succ] at hw hX0
    refine sy_Fs (sy_ildn xc147_7 rfl rfl sy_refl) ?_
    refine sy_Fs (sy_ildn xc147_8 rfl rfl sy_refl) ?_
    refine sy_Fs (sy_ge_f xc147_9 (by decide) (by decide) (by decide) sy_refl) ?_
    refine sy_Fs (sy_aldn xc147_12 rfl rfl sy_refl) ?_
    refine sy_Fs (sy_gf xc147_13 xf147_469 rfl (wh_at hw 0 rfl) rfl (fh_at hX0 17 rfl rfl) sy_refl) ?_
    refine sy_Fs (sy_ildn xc147_16 rfl rfl sy_refl) ?_
    refine sy_Fs (sy_ildn xc147_17 rfl rfl sy_refl) ?_
    refine sy_Fs (sy_callG (kd := 1) (as := [(2, pl 15, 0), (0, 0, 0), (0, 28, 0)]) (S0 := []) (ret := [(0, 0, 0)]) xc147_18 (sy_calS (as := [(2, pl 15, 0), (0, 0, 0), (0, 28, 0)]) (S0 := []) xm147_684 rfl rfl) rfl rfl rfl rfl (sy_oka (sy_oks_cons (sy_ok2 (wh_lt hw 15 (by first | decide | assumption))) (sy_oks_cons (sy_ok0 (by first | decide | assumption | omega | exact mo_rd_lt _ _ | exact mo_add_lt _ _ | exact mo_sub_lt _ _ | exact mo_mul_lt _ _ | exact mo_shl_lt _ _ | exact mo_ushr_lt _ _ | exact mo_or_lt (by decide) (mo_and_lt (mo_rd_lt _ _)) | exact mo_or_lt (mo_shl_lt _ _) (mo_and_lt (mo_rd_lt _ _)))) (sy_oks_cons (sy_ok0 (by first | decide | assumption | omega | exact mo_rd_lt _ _ | exact mo_add_lt _ _ | exact mo_sub_lt _ _ | exact mo_mul_lt _ _ | exact mo_shl_lt _ _ | exact mo_ushr_lt _ _ | exact mo_or_lt (by decide) (mo_and_lt (mo_rd_lt _ _)) | exact mo_or_lt (mo_shl_lt _ _) (mo_and_lt (mo_rd_lt _ _)))) sy_oks_nil))) rfl xl148) (sy_Cw (wr_plain (n := n) hw hX0 h0)) (by decide) (by rw [xl148]; decide) sy_refl) ?_
    refine sy_Fs (sx_istn (j := 3) (ls' := [(2, pl 0, 0), (0, 28, 0), (0, 0, 0), (0, 0, 0), (255, 0, 0)]) xc147_21 rfl rfl (sy_ok0 (by first | decide | assumption | omega | exact mo_rd_lt _ _ | exact mo_add_lt _ _ | exact mo_sub_lt _ _ | exact mo_mul_lt _ _ | exact mo_shl_lt _ _ | exact mo_ushr_lt _ _ | exact mo_or_lt (by decide) (mo_and_lt (mo_rd_lt _ _)) | exact mo_or_lt (mo_shl_lt _ _) (mo_and_lt (mo_rd_lt _ _)))) (by rw [xl147]; rfl) rfl rfl) ?_
    refine sy_Fs (sy_ildn xc147_22 rfl rfl sy_refl) ?_
    refine sy_Fs (sy_bipush (v := 97) xc147_23 (by decide) (by decide) sy_refl) ?_
    refine sy_Fs (sy_aldn xc147_25 rfl rfl sy_refl) ?_
    refine sy_Fs (sy_gf xc147_26 xf147_469 rfl (wh_at hw 0 rfl) rfl (fh_at hX0 17 rfl rfl) sy_refl) ?_
    refine sy_Fs (sy_ildn xc147_29 rfl rfl sy_refl) ?_
    refine sy_Fs (sx_bal (z := 0) xc147_30 (wh_at hw 15 rfl) (by decide) (by decide) h0) ?_
    refine sy_Fs (sx_imul (z := 0) xc147_31 (by decide)) ?_
    refine sy_Fs (sx_iadd (z := 0) xc147_32 (by decide)) ?_
    refine sy_Fs (sx_ist (j := 4) (ls' := [(2, pl 0, 0), (0, 28, 0), (0, 0, 0), (0, 0, 0), (0, 0, 0)]) xc147_33 rfl (sy_ok0 (by first | decide | assumption | omega | exact mo_rd_lt _ _ | exact mo_add_lt _ _ | exact mo_sub_lt _ _ | exact mo_mul_lt _ _ | exact mo_shl_lt _ _ | exact mo_ushr_lt _ _ | exact mo_or_lt (by decide) (mo_and_lt (mo_rd_lt _ _)) | exact mo_or_lt (mo_shl_lt _ _) (mo_and_lt (mo_rd_lt _ _)))) (by rw [xl147]; rfl) rfl rfl) ?_
    refine sy_Fs (sy_aldn xc147_35 rfl rfl sy_refl) ?_
    refine sy_Fs (sy_gf xc147_36 xf147_469 rfl (wh_at hw 0 rfl) rfl (fh_at hX0 17 rfl rfl) sy_refl) ?_
    refine sy_Fs (sy_ildn xc147_39 rfl rfl sy_refl) ?_
    refine sy_Fs (sx_bal (z := 0) xc147_40 (wh_at hw 15 rfl) (by decide) (by decide) h0) ?_
    refine sy_Fs (sy_ifne_f xc147_41 (by decide) (by decide) sy_refl) ?_
    refine sy_Fs (sy_ildn xc147_44 rfl rfl sy_refl) ?_
    refine sy_Fs (sy_bipush (v := 28) xc147_45 (by decide) (by decide) sy_refl) ?_
    refine sy_Fs (sx_iadd (z := 28) xc147_47 (by decide)) ?_
    refine sy_Fs (sy_ildn xc147_48 rfl rfl sy_refl) ?_
    refine sy_Fs (sy_icmpgt_f xc147_49 (by decide) (by decide) (by decide) sy_refl) ?_
    refine sy_Fs (sy_aldn xc147_52 rfl rfl sy_refl) ?_
    refine sy_Fs (sy_gf xc147_53 xf147_469 rfl (wh_at hw 0 rfl) rfl (fh_at hX0 17 rfl rfl) sy_refl) ?_
    refine sy_Fs (sy_ildn xc147_56 rfl rfl sy_refl) ?_
    refine sy_Fs (sy_iconst (v := 3) xc147_57 (by decide) sy_refl) ?_
    refine sy_Fs (sx_iadd (z := 3) xc147_58 (by decide)) ?_
    refine sy_Fs (sx_bal (z := 1) xc147_59 (wh_at hw 15 rfl) (by decide) (by decide) h3) ?_
    refine sy_Fs (sy_iconst (v := 1) xc147_60 (by decide) sy_refl) ?_
    refine sy_Fs (sy_icmpne_f xc147_61 (by decide) (by decide) sy_refl) ?_
    refine sy_Fs (sy_aldn xc147_64 rfl rfl sy_refl) ?_
    refine sy_Fs (sy_gf xc147_65 xf147_469 rfl (wh_at hw 0 rfl) rfl (fh_at hX0 17 rfl rfl) sy_refl) ?_
    refine sy_Fs (sy_ildn xc147_68 rfl rfl sy_refl) ?_
    refine sy_Fs (sy_iconst (v := 4) xc147_69 (by decide) sy_refl) ?_
    refine sy_Fs (sx_iadd (z := 4) xc147_70 (by decide)) ?_
    refine sy_Fs (sy_callG (kd := 1) (as := [(2, pl 15, 0), (0, 4, 0)]) (S0 := []) (ret := [(0, (wo_4 Of), 0)]) xc147_71 (sy_calS (as := [(2, pl 15, 0), (0, 4, 0)]) (S0 := []) xm147_164 rfl rfl) rfl rfl rfl rfl (sy_oka (sy_oks_cons (sy_ok2 (wh_lt hw 15 (by first | decide | assumption))) (sy_oks_cons (sy_ok0 (by first | decide | assumption | omega | exact mo_rd_lt _ _ | exact mo_add_lt _ _ | exact mo_sub_lt _ _ | exact mo_mul_lt _ _ | exact mo_shl_lt _ _ | exact mo_ushr_lt _ _ | exact mo_or_lt (by decide) (mo_and_lt (mo_rd_lt _ _)) | exact mo_or_lt (mo_shl_lt _ _) (mo_and_lt (mo_rd_lt _ _)))) sy_oks_nil)) rfl xl108) (sy_Cw (wr_word (n := n) hw hX0)) (by decide) (by rw [xl108]; decide) sy_refl) ?_
    refine sy_Fs (sx_i2ln xc147_74 hn hl) ?_
    refine sy_Fs (sy_lconst xc147_75 sy_refl) ?_
    refine sy_Fs (sy_ldc2 (v := 1000000000) xc147_76 xk147_252 sy_refl) ?_
    refine sy_Fs (sy_callG (kd := 1) (as := [(1, ((wo_4 Of) + 18446744069414584320), 0), (1, 1, 0), (1, 1000000000, 0)]) (S0 := []) (ret := [(0, 0, 0)]) xc147_79 (sy_calS (as := [(1, ((wo_4 Of) + 18446744069414584320), 0), (1, 1, 0), (1, 1000000000, 0)]) (S0 := []) xm147_147 rfl rfl) rfl rfl rfl rfl (sy_oka (sy_oks_cons (sy_ok1 (by first | decide | assumption | omega | exact mo_rd_lt _ _ | exact mo_add_lt _ _ | exact mo_sub_lt _ _ | exact mo_mul_lt _ _ | exact mo_shl_lt _ _ | exact mo_ushr_lt _ _ | exact mo_or_lt (by decide) (mo_and_lt (mo_rd_lt _ _)) | exact mo_or_lt (mo_shl_lt _ _) (mo_and_lt (mo_rd_lt _ _)))) (sy_oks_cons (sy_ok1 (by first | decide | assumption | omega | exact mo_rd_lt _ _ | exact mo_add_lt _ _ | exact mo_sub_lt _ _ | exact mo_mul_lt _ _ | exact mo_shl_lt _ _ | exact mo_ushr_lt _ _ | exact mo_or_lt (by decide) (mo_and_lt (mo_rd_lt _ _)) | exact mo_or_lt (mo_shl_lt _ _) (mo_and_lt (mo_rd_lt _ _)))) (sy_oks_cons (sy_ok1 (by first | decide | assumption | omega | exact mo_rd_lt _ _ | exact mo_add_lt _ _ | exact mo_sub_lt _ _ | exact mo_mul_lt _ _ | exact mo_shl_lt _ _ | exact mo_ushr_lt _ _ | exact mo_or_lt (by decide) (mo_and_lt (mo_rd_lt _ _)) | exact mo_or_lt (mo_shl_lt _ _) (mo_and_lt (mo_rd_lt _ _)))) sy_oks_nil))) rfl xl98) (wr_inN (n := n) hn hl (by decide) (by decide)) (by decide) (by rw [xl98]; decide) sy_refl) ?_
    refine sy_Fs (sy_ifeq_t (pc' := 90) xc147_82 (by decide) (by decide) (by decide) sy_refl) ?_
    refine sy_Fs (sy_iconst (v := 0) xc147_90 (by decide) sy_refl) ?_
    refine sy_Fs (sx_istn (j := 3) (ls' := [(2, pl 0, 0), (0, 28, 0), (0, 0, 0), (0, 0, 0), (0, 0, 0)]) xc147_91 rfl rfl (sy_ok0 (by first | decide | assumption | omega | exact mo_rd_lt _ _ | exact mo_add_lt _ _ | exact mo_sub_lt _ _ | exact mo_mul_lt _ _ | exact mo_shl_lt _ _ | exact mo_ushr_lt _ _ | exact mo_or_lt (by decide) (mo_and_lt (mo_rd_lt _ _)) | exact mo_or_lt (mo_shl_lt _ _) (mo_and_lt (mo_rd_lt _ _)))) (by rw [xl147]; rfl) rfl rfl) ?_
    refine sy_Fs (sy_ildn xc147_92 rfl rfl sy_refl) ?_
    refine sy_Fs (sx_ist (j := 4) (ls' := [(2, pl 0, 0), (0, 28, 0), (0, 0, 0), (0, 0, 0), (0, 0, 0)]) xc147_93 rfl (sy_ok0 (by first | decide | assumption | omega | exact mo_rd_lt _ _ | exact mo_add_lt _ _ | exact mo_sub_lt _ _ | exact mo_mul_lt _ _ | exact mo_shl_lt _ _ | exact mo_ushr_lt _ _ | exact mo_or_lt (by decide) (mo_and_lt (mo_rd_lt _ _)) | exact mo_or_lt (mo_shl_lt _ _) (mo_and_lt (mo_rd_lt _ _)))) (by rw [xl147]; rfl) rfl rfl) ?_
    refine sy_Fs (sy_ildn xc147_95 rfl rfl sy_refl) ?_
    refine sy_Fs (sy_ifeq_t (pc' := 116) xc147_96 (by decide) (by decide) (by decide) sy_refl) ?_
    refine sy_Fs (sy_iconst (v := 0) xc147_116 (by decide) sy_refl) ?_
    exact sy_Fz xc147_117 xr147 (by first | decide | assumption | omega) rfl
theorem rg_blkN (hw : wh 29 pl w0 w [(0, 0, 107, X0), (1, 1, 64, Pc), (1, 0, 64, mc_K), (1, 0, 64, Wd), (1, 0, 8, Vv), (1, 0, 8, St), (1, 0, 8, Af), (1, 1, 32, Mi), (1, 1, 4200, Hd), (1, 1, 105, Gv), (1, 1, 32, Gi), (1, 1, 1920, Hi), (1, 1, 1280, Bi), (1, 1, 6300, Hb), (1, 1, 3200, Fl), (1, 1, 1900, Of), (1, 1, 32, Ou), (1, 0, 40, Fs), (1, 0, 40, Bs), (1, 2, 60, Hf), (1, 2, 60, Hh), (1, 1, 76000, Bb), (1, 1, 2304, Oi), (1, 1, 2400, Ly), (1, 0, 60, Hw), (1, 0, 60, He), (1, 0, 60, Ht), (1, 0, 60, Ca), (1, 0, 2, Lu)]) (hX0 : fh X0 jR [(0, th, 0), (2, pl 1, 0), (2, pl 2, 0), (2, pl 3, 0), (2, pl 4, 0), (2, pl 5, 0), (2, pl 6, 0), (2, pl 7, 0), (0, up, 0), (1, lp, 0), (2, pl 8, 0), (2, pl 9, 0), (2, pl 10, 0), (2, pl 11, 0), (2, pl 12, 0), (2, pl 13, 0), (2, pl 14, 0), (2, pl 15, 0), (2, pl 16, 0), (2, pl 17, 0), (2, pl 18, 0), (2, pl 19, 0), (2, pl 20, 0), (2, pl 21, 0), (2, pl 22, 0), (2, pl 23, 0), (2, pl 24, 0), (2, pl 25, 0), (2, pl 26, 0), (2, pl 27, 0), (2, pl 28, 0), (0, 1, 0), (0, 1, 0), (0, oc, 0), (0, co, 0), (0, so, 0), (0, ms, 0), (0, bh, 0), (0, 0, 0)]) {place mask : Nat} (hbs : mv_rd 32 Bs 0 = 28) (hp : place < 28) (hm1 : 0 < mask) (hm2 : mask ≤ 255) (hbad : mv_rd 32 (rg_G (mo_T Of 0 Bb 0 28) place mask) 0 ≠ 0 ∨ (mv_rd 32 (rg_G (mo_T Of 0 Bb 0 28) place mask) 0 = 0 ∧ mv_rd 32 (rg_G (mo_T Of 0 Bb 0 28) place mask) 3 ≠ 1) ∨ (mv_rd 32 (rg_G (mo_T Of 0 Bb 0 28) place mask) 0 = 0 ∧ mv_rd 32 (rg_G (mo_T Of 0 Bb 0 28) place mask) 3 = 1 ∧ 1000000000 < wo_4 (rg_G (mo_T Of 0 Bb 0 28) place mask) ∧ wo_4 (rg_G (mo_T Of 0 Bb 0 28) place mask) < 2147483648) ∨ (mv_rd 32 (rg_G (mo_T Of 0 Bb 0 28) place mask) 0 = 0 ∧ mv_rd 32 (rg_G (mo_T Of 0 Bb 0 28) place mask) 3 = 1 ∧ 2147483648 ≤ wo_4 (rg_G (mo_T Of 0 Bb 0 28) place mask) ∧ wo_4 (rg_G (mo_T Of 0 Bb 0 28) place mask) < 4294967296)) : sy_D 146 n 3 74 [(2, pl 0, 0), (0, 0, 0), (0, 0, 0), (0, place, 0), (0, mask, 0)] w (fun ret _ => ret = [(0, 0, 0)]) := by
  refine sy_Dof (us := [(255, 0, 0)]) (sy_oks_cons (sy_ok2 (wh_lt hw 0 (by first | decide | assumption))) (sy_oks_cons (sy_ok0 (by first | decide | assumption | omega | exact mo_rd_lt _ _ | exact mo_add_lt _ _ | exact mo_sub_lt _ _ | exact mo_mul_lt _ _ | exact mo_shl_lt _ _ | exact mo_ushr_lt _ _ | exact mo_or_lt (by decide) (mo_and_lt (mo_rd_lt _ _)) | exact mo_or_lt (mo_shl_lt _ _) (mo_and_lt (mo_rd_lt _ _)))) (sy_oks_cons (sy_ok0 (by first | decide | assumption | omega | exact mo_rd_lt _ _ | exact mo_add_lt _ _ | exact mo_sub_lt _ _ | exact mo_mul_lt _ _ | exact mo_shl_lt _ _ | exact mo_ushr_lt _ _ | exact mo_or_lt (by decide) (mo_and_lt (mo_rd_lt _ _)) | exact mo_or_lt (mo_shl_lt _ _) (mo_and_lt (mo_rd_lt _ _)))) (sy_oks_cons (sy_ok0 (by first | decide | assumption | omega | exact mo_rd_lt _ _ | exact mo_add_lt _ _ | exact mo_sub_lt _ _ | exact mo_mul_lt _ _ | exact mo_shl_lt _ _ | exact mo_ushr_lt _ _ | exact mo_or_lt (by decide) (mo_and_lt (mo_rd_lt _ _)) | exact mo_or_lt (mo_shl_lt _ _) (mo_and_lt (mo_rd_lt _ _)))) (sy_oks_cons (sy_ok0 (by first | decide | assumption | omega | exact mo_rd_lt _ _ | exact mo_add_lt _ _ | exact mo_sub_lt _ _ | exact mo_mul_lt _ _ | exact mo_shl_lt _ _ | exact mo_ushr_lt _ _ | exact mo_or_lt (by decide) (mo_and_lt (mo_rd_lt _ _)) | exact mo_or_lt (mo_shl_lt _ _) (mo_and_lt (mo_rd_lt _ _)))) sy_oks_nil))))) rfl rfl ?_
  show sy_F 146 n 3 74 0 [(2, pl 0, 0), (0, 0, 0), (0, 0, 0), (0, place, 0), (0, mask, 0), (255, 0, 0)] [] w _
  refine sy_Fs (sy_aldn xc146_0 rfl rfl sy_refl) ?_
  refine sy_Fs (sy_gf xc146_1 xf146_379 rfl (wh_at hw 0 rfl) rfl (fh_at hX0 20 rfl rfl) sy_refl) ?_
  refine sy_Fs (sy_ildn xc146_4 rfl rfl sy_refl) ?_
  refine sy_Fs (sx_ial (z := 28) xc146_5 (wh_at hw 18 rfl) (by decide) (by decide) hbs) ?_
  refine sy_Fs (sx_ist (j := 5) (ls' := [(2, pl 0, 0), (0, 0, 0), (0, 0, 0), (0, place, 0), (0, mask, 0), (0, 28, 0)]) xc146_6 rfl (sy_ok0 (by first | decide | assumption | omega | exact mo_rd_lt _ _ | exact mo_add_lt _ _ | exact mo_sub_lt _ _ | exact mo_mul_lt _ _ | exact mo_shl_lt _ _ | exact mo_ushr_lt _ _ | exact mo_or_lt (by decide) (mo_and_lt (mo_rd_lt _ _)) | exact mo_or_lt (mo_shl_lt _ _) (mo_and_lt (mo_rd_lt _ _)))) (by rw [xl146]; rfl) rfl rfl) ?_
  refine sy_Fs (sy_aldn xc146_8 rfl rfl sy_refl) ?_
  refine sy_Fs (sy_gf xc146_9 xf146_361 rfl (wh_at hw 0 rfl) rfl (fh_at hX0 23 rfl rfl) sy_refl) ?_
  refine sy_Fs (sy_sipush (v := 1900) xc146_12 (by decide) (by decide) sy_refl) ?_
  refine sy_Fs (sy_ildn xc146_15 rfl rfl sy_refl) ?_
  refine sy_Fs (sx_imul (z := 0) xc146_16 (by decide)) ?_
  refine sy_Fs (sy_aldn xc146_17 rfl rfl sy_refl) ?_
  refine sy_Fs (sy_gf xc146_18 xf146_469 rfl (wh_at hw 0 rfl) rfl (fh_at hX0 17 rfl rfl) sy_refl) ?_
  refine sy_Fs (sy_iconst (v := 0) xc146_21 (by decide) sy_refl) ?_
  refine sy_Fs (sy_ild xc146_22 rfl rfl sy_refl) ?_
  refine sy_Fw (i := 15) (x := (1, 1, 1900, (mo_T Of 0 Bb 0 28))) hw (by decide) (sy_callG (kd := 1) (as := [(2, pl 21, 0), (0, 0, 0), (2, pl 15, 0), (0, 0, 0), (0, 28, 0)]) (S0 := []) (ret := []) xc146_24 (sy_calS (as := [(2, pl 21, 0), (0, 0, 0), (2, pl 15, 0), (0, 0, 0), (0, 28, 0)]) (S0 := []) xm146_184 rfl rfl) rfl rfl rfl rfl (sy_oka (sy_oks_cons (sy_ok2 (wh_lt hw 21 (by first | decide | assumption))) (sy_oks_cons (sy_ok0 (by first | decide | assumption | omega | exact mo_rd_lt _ _ | exact mo_add_lt _ _ | exact mo_sub_lt _ _ | exact mo_mul_lt _ _ | exact mo_shl_lt _ _ | exact mo_ushr_lt _ _ | exact mo_or_lt (by decide) (mo_and_lt (mo_rd_lt _ _)) | exact mo_or_lt (mo_shl_lt _ _) (mo_and_lt (mo_rd_lt _ _)))) (sy_oks_cons (sy_ok2 (wh_lt hw 15 (by first | decide | assumption))) (sy_oks_cons (sy_ok0 (by first | decide | assumption | omega | exact mo_rd_lt _ _ | exact mo_add_lt _ _ | exact mo_sub_lt _ _ | exact mo_mul_lt _ _ | exact mo_shl_lt _ _ | exact mo_ushr_lt _ _ | exact mo_or_lt (by decide) (mo_and_lt (mo_rd_lt _ _)) | exact mo_or_lt (mo_shl_lt _ _) (mo_and_lt (mo_rd_lt _ _)))) (sy_oks_cons (sy_ok0 (by first | decide | assumption | omega | exact mo_rd_lt _ _ | exact mo_add_lt _ _ | exact mo_sub_lt _ _ | exact mo_mul_lt _ _ | exact mo_shl_lt _ _ | exact mo_ushr_lt _ _ | exact mo_or_lt (by decide) (mo_and_lt (mo_rd_lt _ _)) | exact mo_or_lt (mo_shl_lt _ _) (mo_and_lt (mo_rd_lt _ _)))) sy_oks_nil))))) rfl xl110) (wr_move (wh_ne hw 21 15 (by decide) (by decide) (by decide)) (wh_lt hw 21 (by first | decide | assumption)) (wh_lt hw 15 (by first | decide | assumption)) (wh_at hw 21 rfl) (wh_at hw 15 rfl) (by first | decide | assumption | omega) (by first | decide | assumption | omega) (by first | decide | assumption | omega) (by first | decide | assumption | omega)) (by decide) (by rw [xl110]; decide) sy_refl) ?_
  intro w hw
  simp only [List.set_cons_zero, List.set_cons_succ] at hw
  refine sy_Fs (sy_ild xc146_27 rfl rfl sy_refl) ?_
  refine sy_Fs (sy_le_f xc146_29 (by decide) hm1 (by omega) sy_refl) ?_
  refine sy_Fs (sy_aldn xc146_32 rfl rfl sy_refl) ?_
  refine sy_Fs (sy_gf xc146_33 xf146_469 rfl (wh_at hw 0 rfl) rfl (fh_at hX0 17 rfl rfl) sy_refl) ?_
  refine sy_Fs (sy_ildn xc146_36 rfl rfl sy_refl) ?_
  refine sy_Fs (sy_aldn xc146_37 rfl rfl sy_refl) ?_
  refine sy_Fs (sy_gf xc146_38 xf146_469 rfl (wh_at hw 0 rfl) rfl (fh_at hX0 17 rfl rfl) sy_refl) ?_
  refine sy_Fs (sy_ildn xc146_41 rfl rfl sy_refl) ?_
  refine sy_Fs (sx_bal (z := (mv_rd 32 (mo_T Of 0 Bb 0 28) place)) xc146_42 (wh_at hw 15 rfl) (by omega) (by decide) rfl) ?_
  refine sy_Fs (sy_ild xc146_43 rfl rfl sy_refl) ?_
  refine sy_Fs (sx_ixor (z := (mo_xor (mv_rd 32 (mo_T Of 0 Bb 0 28) place) mask)) xc146_45 rfl) ?_
  refine sy_Fs (sx_i2b (z := (mn_b (mo_xor (mv_rd 32 (mo_T Of 0 Bb 0 28) place) mask))) xc146_46 rfl) ?_
  refine sy_Fw (i := 15) (x := (1, 1, 1900, (rg_G (mo_T Of 0 Bb 0 28) place mask))) hw (by decide) (sy_bas (i := place) xc146_47 (wh_at hw 15 rfl) rfl (by omega) (by decide) rfl sy_refl) ?_
  intro w hw
  simp only [List.set_cons_zero, List.set_cons_succ] at hw
  refine sy_Fs (sy_aldn xc146_48 rfl rfl sy_refl) ?_
  refine sy_Fs (sy_ild xc146_49 rfl rfl sy_refl) ?_
  obtain ⟨ret, w, rfl, hC⟩ := wr_readN (n := n) hw hX0 hbad
  refine sy_Fs (sy_callG (kd := 3) (as := [(2, pl 0, 0), (0, 28, 0)]) (S0 := []) (ret := [(0, 0, 0)]) xc146_51 (sy_calV (as := [(2, pl 0, 0), (0, 28, 0)]) (S0 := []) xm146_687 rfl rfl) rfl rfl (sy_rcvm xi147 (wh_at hw 0 rfl)) rfl (sy_oka (sy_oks_cons (sy_ok2 (wh_lt hw 0 (by first | decide | assumption))) (sy_oks_cons (sy_ok0 (by first | decide | assumption | omega | exact mo_rd_lt _ _ | exact mo_add_lt _ _ | exact mo_sub_lt _ _ | exact mo_mul_lt _ _ | exact mo_shl_lt _ _ | exact mo_ushr_lt _ _ | exact mo_or_lt (by decide) (mo_and_lt (mo_rd_lt _ _)) | exact mo_or_lt (mo_shl_lt _ _) (mo_and_lt (mo_rd_lt _ _)))) sy_oks_nil)) rfl xl147) hC (by decide) (by rw [xl147]; decide) sy_refl) ?_
  refine sy_Fs (sy_ifne_f xc146_54 (by decide) (by decide) sy_refl) ?_
  refine sy_Fs (sy_iconst (v := 0) xc146_57 (by decide) sy_refl) ?_
  exact sy_Fz xc146_58 xr146 (by first | decide | assumption | omega) rfl
theorem rg_give2N (hw : wh 29 pl w0 w [(0, 0, 107, X0), (1, 1, 64, Pc), (1, 0, 64, mc_K), (1, 0, 64, Wd), (1, 0, 8, Vv), (1, 0, 8, St), (1, 0, 8, Af), (1, 1, 32, Mi), (1, 1, 4200, Hd), (1, 1, 105, Gv), (1, 1, 32, Gi), (1, 1, 1920, Hi), (1, 1, 1280, Bi), (1, 1, 6300, Hb), (1, 1, 3200, Fl), (1, 1, 1900, Of), (1, 1, 32, Ou), (1, 0, 40, Fs), (1, 0, 40, Bs), (1, 2, 60, Hf), (1, 2, 60, Hh), (1, 1, 76000, Bb), (1, 1, 2304, Oi), (1, 1, 2400, Ly), (1, 0, 60, Hw), (1, 0, 60, He), (1, 0, 60, Ht), (1, 0, 60, Ca), (1, 0, 2, Lu)]) (hX0 : fh X0 jR [(0, th, 0), (2, pl 1, 0), (2, pl 2, 0), (2, pl 3, 0), (2, pl 4, 0), (2, pl 5, 0), (2, pl 6, 0), (2, pl 7, 0), (0, up, 0), (1, lp, 0), (2, pl 8, 0), (2, pl 9, 0), (2, pl 10, 0), (2, pl 11, 0), (2, pl 12, 0), (2, pl 13, 0), (2, pl 14, 0), (2, pl 15, 0), (2, pl 16, 0), (2, pl 17, 0), (2, pl 18, 0), (2, pl 19, 0), (2, pl 20, 0), (2, pl 21, 0), (2, pl 22, 0), (2, pl 23, 0), (2, pl 24, 0), (2, pl 25, 0), (2, pl 26, 0), (2, pl 27, 0), (2, pl 28, 0), (0, 1, 0), (0, 1, 0), (0, oc, 0), (0, co, 0), (0, so, 0), (0, ms, 0), (0, bh, 0), (0, 0, 0)]) (hBi : sb_eq Hi 0 Bi 0 32 = true) (hhh : mv_rd 32 Hh 0 = 0) {place mask : Nat} (hbs : mv_rd 32 Bs 0 = 28) (hp : place < 28) (hm1 : 0 < mask) (hm2 : mask ≤ 255) (hbad : mv_rd 32 (rg_G (mo_T Of 0 Bb 0 28) place mask) 0 ≠ 0 ∨ (mv_rd 32 (rg_G (mo_T Of 0 Bb 0 28) place mask) 0 = 0 ∧ mv_rd 32 (rg_G (mo_T Of 0 Bb 0 28) place mask) 3 ≠ 1) ∨ (mv_rd 32 (rg_G (mo_T Of 0 Bb 0 28) place mask) 0 = 0 ∧ mv_rd 32 (rg_G (mo_T Of 0 Bb 0 28) place mask) 3 = 1 ∧ 1000000000 < wo_4 (rg_G (mo_T Of 0 Bb 0 28) place mask) ∧ wo_4 (rg_G (mo_T Of 0 Bb 0 28) place mask) < 2147483648) ∨ (mv_rd 32 (rg_G (mo_T Of 0 Bb 0 28) place mask) 0 = 0 ∧ mv_rd 32 (rg_G (mo_T Of 0 Bb 0 28) place mask) 3 = 1 ∧ 2147483648 ≤ wo_4 (rg_G (mo_T Of 0 Bb 0 28) place mask) ∧ wo_4 (rg_G (mo_T Of 0 Bb 0 28) place mask) < 4294967296)) : sy_D 142 n 4 99 [(2, pl 0, 0), (0, 0, 0), (0, 2, 0), (0, place, 0), (0, mask, 0)] w (fun ret _ => ret = [(0, 0, 0)]) := by
  have eB : rf_a Hi Bi 0 = 0 := by unfold rf_a; rw [hBi]; rfl
  refine sy_Dof (us := [(255, 0, 0), (255, 0, 0)]) (sy_oks_cons (sy_ok2 (wh_lt hw 0 (by first | decide | assumption))) (sy_oks_cons (sy_ok0 (by first | decide | assumption | omega | exact mo_rd_lt _ _ | exact mo_add_lt _ _ | exact mo_sub_lt _ _ | exact mo_mul_lt _ _ | exact mo_shl_lt _ _ | exact mo_ushr_lt _ _ | exact mo_or_lt (by decide) (mo_and_lt (mo_rd_lt _ _)) | exact mo_or_lt (mo_shl_lt _ _) (mo_and_lt (mo_rd_lt _ _)))) (sy_oks_cons (sy_ok0 (by first | decide | assumption | omega | exact mo_rd_lt _ _ | exact mo_add_lt _ _ | exact mo_sub_lt _ _ | exact mo_mul_lt _ _ | exact mo_shl_lt _ _ | exact mo_ushr_lt _ _ | exact mo_or_lt (by decide) (mo_and_lt (mo_rd_lt _ _)) | exact mo_or_lt (mo_shl_lt _ _) (mo_and_lt (mo_rd_lt _ _)))) (sy_oks_cons (sy_ok0 (by first | decide | assumption | omega | exact mo_rd_lt _ _ | exact mo_add_lt _ _ | exact mo_sub_lt _ _ | exact mo_mul_lt _ _ | exact mo_shl_lt _ _ | exact mo_ushr_lt _ _ | exact mo_or_lt (by decide) (mo_and_lt (mo_rd_lt _ _)) | exact mo_or_lt (mo_shl_lt _ _) (mo_and_lt (mo_rd_lt _ _)))) (sy_oks_cons (sy_ok0 (by first | decide | assumption | omega | exact mo_rd_lt _ _ | exact mo_add_lt _ _ | exact mo_sub_lt _ _ | exact mo_mul_lt _ _ | exact mo_shl_lt _ _ | exact mo_ushr_lt _ _ | exact mo_or_lt (by decide) (mo_and_lt (mo_rd_lt _ _)) | exact mo_or_lt (mo_shl_lt _ _) (mo_and_lt (mo_rd_lt _ _)))) sy_oks_nil))))) rfl rfl ?_
  show sy_F 142 n 4 99 0 [(2, pl 0, 0), (0, 0, 0), (0, 2, 0), (0, place, 0), (0, mask, 0), (255, 0, 0), (255, 0, 0)] [] w _
  refine sy_Fs (sy_aldn xc142_0 rfl rfl sy_refl) ?_
  refine sy_Fs (sy_iconst (v := 0) xc142_1 (by decide) sy_refl) ?_
  refine sy_Ff (i := 0) (q := 0) (v := (0, 0, 0)) hw hX0 (by decide) (by decide) rfl (sy_ok0 (by first | decide | assumption | omega | exact mo_rd_lt _ _ | exact mo_add_lt _ _ | exact mo_sub_lt _ _ | exact mo_mul_lt _ _ | exact mo_shl_lt _ _ | exact mo_ushr_lt _ _ | exact mo_or_lt (by decide) (mo_and_lt (mo_rd_lt _ _)) | exact mo_or_lt (mo_shl_lt _ _) (mo_and_lt (mo_rd_lt _ _)))) (sy_pfi xc142_2 xf142_1 rfl xt0_0 xn0_0 (wh_at hw 0 rfl) rfl (by first | decide | assumption | omega | exact mo_rd_lt _ _ | exact mo_add_lt _ _ | exact mo_sub_lt _ _ | exact mo_mul_lt _ _ | exact mo_shl_lt _ _ | exact mo_ushr_lt _ _ | exact mo_or_lt (by decide) (mo_and_lt (mo_rd_lt _ _)) | exact mo_or_lt (mo_shl_lt _ _) (mo_and_lt (mo_rd_lt _ _))) rfl sy_refl) ?_
  intro w X0 hw hX0
  simp only [List.set_cons_zero, List.set_cons_succ] at hw hX0
  refine sy_Fs (sy_aldn xc142_5 rfl rfl sy_refl) ?_
  refine sy_Fs (sy_ildn xc142_6 rfl rfl sy_refl) ?_
  refine sy_Fs (sy_callG (kd := 3) (as := [(2, pl 0, 0), (0, 0, 0)]) (S0 := []) (ret := [(0, 0, 0)]) xc142_7 (sy_calV (as := [(2, pl 0, 0), (0, 0, 0)]) (S0 := []) xm142_662 rfl rfl) rfl rfl (sy_rcvm xi136 (wh_at hw 0 rfl)) rfl (sy_oka (sy_oks_cons (sy_ok2 (wh_lt hw 0 (by first | decide | assumption))) (sy_oks_cons (sy_ok0 (by first | decide | assumption | omega | exact mo_rd_lt _ _ | exact mo_add_lt _ _ | exact mo_sub_lt _ _ | exact mo_mul_lt _ _ | exact mo_shl_lt _ _ | exact mo_ushr_lt _ _ | exact mo_or_lt (by decide) (mo_and_lt (mo_rd_lt _ _)) | exact mo_or_lt (mo_shl_lt _ _) (mo_and_lt (mo_rd_lt _ _)))) sy_oks_nil)) rfl xl136) (sy_Cw (wr_noBlock (n := n) hw hX0)) (by decide) (by rw [xl136]; decide) sy_refl) ?_
  refine sy_Fs (sy_ifne_f xc142_10 (by decide) (by decide) sy_refl) ?_
  refine sy_Fs (sy_ildn xc142_13 rfl rfl sy_refl) ?_
  refine sy_Fs (sx_i2l xc142_14 (by first | decide | assumption | omega | exact mo_rd_lt _ _ | exact mo_add_lt _ _ | exact mo_sub_lt _ _ | exact mo_mul_lt _ _ | exact mo_shl_lt _ _ | exact mo_ushr_lt _ _ | exact mo_or_lt (by decide) (mo_and_lt (mo_rd_lt _ _)) | exact mo_or_lt (mo_shl_lt _ _) (mo_and_lt (mo_rd_lt _ _)))) ?_
  refine sy_Fs (sy_lconst xc142_15 sy_refl) ?_
  refine sy_Fs (sy_ldc2 (v := 2) xc142_16 xk142_55 sy_refl) ?_
  refine sy_Fs (sy_callG (kd := 1) (as := [(1, 2, 0), (1, 0, 0), (1, 2, 0)]) (S0 := []) (ret := [(0, 1, 0)]) xc142_19 (sy_calS (as := [(1, 2, 0), (1, 0, 0), (1, 2, 0)]) (S0 := []) xm142_147 rfl rfl) rfl rfl rfl rfl (sy_oka (sy_oks_cons (sy_ok1 (by first | decide | assumption | omega | exact mo_rd_lt _ _ | exact mo_add_lt _ _ | exact mo_sub_lt _ _ | exact mo_mul_lt _ _ | exact mo_shl_lt _ _ | exact mo_ushr_lt _ _ | exact mo_or_lt (by decide) (mo_and_lt (mo_rd_lt _ _)) | exact mo_or_lt (mo_shl_lt _ _) (mo_and_lt (mo_rd_lt _ _)))) (sy_oks_cons (sy_ok1 (by first | decide | assumption | omega | exact mo_rd_lt _ _ | exact mo_add_lt _ _ | exact mo_sub_lt _ _ | exact mo_mul_lt _ _ | exact mo_shl_lt _ _ | exact mo_ushr_lt _ _ | exact mo_or_lt (by decide) (mo_and_lt (mo_rd_lt _ _)) | exact mo_or_lt (mo_shl_lt _ _) (mo_and_lt (mo_rd_lt _ _)))) (sy_oks_cons (sy_ok1 (by first | decide | assumption | omega | exact mo_rd_lt _ _ | exact mo_add_lt _ _ | exact mo_sub_lt _ _ | exact mo_mul_lt _ _ | exact mo_shl_lt _ _ | exact mo_ushr_lt _ _ | exact mo_or_lt (by decide) (mo_and_lt (mo_rd_lt _ _)) | exact mo_or_lt (mo_shl_lt _ _) (mo_and_lt (mo_rd_lt _ _)))) sy_oks_nil))) rfl xl98) (wr_in (n := n) (by first | decide | assumption | omega) (by first | decide | assumption | omega) (by first | decide | assumption | omega)) (by decide) (by rw [xl98]; decide) sy_refl) ?_
  refine sy_Fs (sy_ifeq_f xc142_22 (by decide) (by decide) (by decide) sy_refl) ?_
  refine sy_Fs (sy_ild xc142_25 rfl rfl sy_refl) ?_
  refine sy_Fs (sx_i2l xc142_27 (by first | decide | assumption | omega | exact mo_rd_lt _ _ | exact mo_add_lt _ _ | exact mo_sub_lt _ _ | exact mo_mul_lt _ _ | exact mo_shl_lt _ _ | exact mo_ushr_lt _ _ | exact mo_or_lt (by decide) (mo_and_lt (mo_rd_lt _ _)) | exact mo_or_lt (mo_shl_lt _ _) (mo_and_lt (mo_rd_lt _ _)))) ?_
  refine sy_Fs (sy_lconst xc142_28 sy_refl) ?_
  refine sy_Fs (sy_ldc2 (v := 255) xc142_29 xk142_693 sy_refl) ?_
  refine sy_Fs (sy_callG (kd := 1) (as := [(1, mask, 0), (1, 0, 0), (1, 255, 0)]) (S0 := []) (ret := [(0, 1, 0)]) xc142_32 (sy_calS (as := [(1, mask, 0), (1, 0, 0), (1, 255, 0)]) (S0 := []) xm142_147 rfl rfl) rfl rfl rfl rfl (sy_oka (sy_oks_cons (sy_ok1 (by first | decide | assumption | omega | exact mo_rd_lt _ _ | exact mo_add_lt _ _ | exact mo_sub_lt _ _ | exact mo_mul_lt _ _ | exact mo_shl_lt _ _ | exact mo_ushr_lt _ _ | exact mo_or_lt (by decide) (mo_and_lt (mo_rd_lt _ _)) | exact mo_or_lt (mo_shl_lt _ _) (mo_and_lt (mo_rd_lt _ _)))) (sy_oks_cons (sy_ok1 (by first | decide | assumption | omega | exact mo_rd_lt _ _ | exact mo_add_lt _ _ | exact mo_sub_lt _ _ | exact mo_mul_lt _ _ | exact mo_shl_lt _ _ | exact mo_ushr_lt _ _ | exact mo_or_lt (by decide) (mo_and_lt (mo_rd_lt _ _)) | exact mo_or_lt (mo_shl_lt _ _) (mo_and_lt (mo_rd_lt _ _)))) (sy_oks_cons (sy_ok1 (by first | decide | assumption | omega | exact mo_rd_lt _ _ | exact mo_add_lt _ _ | exact mo_sub_lt _ _ | exact mo_mul_lt _ _ | exact mo_shl_lt _ _ | exact mo_ushr_lt _ _ | exact mo_or_lt (by decide) (mo_and_lt (mo_rd_lt _ _)) | exact mo_or_lt (mo_shl_lt _ _) (mo_and_lt (mo_rd_lt _ _)))) sy_oks_nil))) rfl xl98) (wr_in (n := n) (by first | decide | assumption | omega) (by first | decide | assumption | omega) (by first | decide | assumption | omega)) (by decide) (by rw [xl98]; decide) sy_refl) ?_
  refine sy_Fs (sy_ifne_t (pc' := 40) xc142_35 (by decide) (by decide) (by decide) (by decide) sy_refl) ?_
  refine sy_Fs (sy_ildn xc142_40 rfl rfl sy_refl) ?_
  refine sy_Fs (sy_ifne_t (pc' := 49) xc142_41 (by decide) (by decide) (by decide) (by decide) sy_refl) ?_
  refine sy_Fs (sy_ildn xc142_49 rfl rfl sy_refl) ?_
  refine sy_Fs (sy_iconst (v := 1) xc142_50 (by decide) sy_refl) ?_
  refine sy_Fs (sy_icmpne_t (pc' := 63) xc142_51 (by decide) (by decide) (by decide) (by decide) (by decide) sy_refl) ?_
  refine sy_Fs (sy_aldn xc142_63 rfl rfl sy_refl) ?_
  refine sy_Fs (sy_gf xc142_64 xf142_379 rfl (wh_at hw 0 rfl) rfl (fh_at hX0 20 rfl rfl) sy_refl) ?_
  refine sy_Fs (sy_ildn xc142_67 rfl rfl sy_refl) ?_
  refine sy_Fs (sx_ial (z := 28) xc142_68 (wh_at hw 18 rfl) (by decide) (by decide) hbs) ?_
  refine sy_Fs (sx_ist (j := 5) (ls' := [(2, pl 0, 0), (0, 0, 0), (0, 2, 0), (0, place, 0), (0, mask, 0), (0, 28, 0), (255, 0, 0)]) xc142_69 rfl (sy_ok0 (by first | decide | assumption | omega | exact mo_rd_lt _ _ | exact mo_add_lt _ _ | exact mo_sub_lt _ _ | exact mo_mul_lt _ _ | exact mo_shl_lt _ _ | exact mo_ushr_lt _ _ | exact mo_or_lt (by decide) (mo_and_lt (mo_rd_lt _ _)) | exact mo_or_lt (mo_shl_lt _ _) (mo_and_lt (mo_rd_lt _ _)))) (by rw [xl142]; rfl) rfl rfl) ?_
  refine sy_Fs (sy_ild xc142_71 rfl rfl sy_refl) ?_
  refine sy_Fs (sy_le_f xc142_73 (by decide) hm1 (by omega) sy_refl) ?_
  refine sy_Fs (sy_ildn xc142_76 rfl rfl sy_refl) ?_
  refine sy_Fs (sx_i2l xc142_77 (by first | decide | assumption | omega | exact mo_rd_lt _ _ | exact mo_add_lt _ _ | exact mo_sub_lt _ _ | exact mo_mul_lt _ _ | exact mo_shl_lt _ _ | exact mo_ushr_lt _ _ | exact mo_or_lt (by decide) (mo_and_lt (mo_rd_lt _ _)) | exact mo_or_lt (mo_shl_lt _ _) (mo_and_lt (mo_rd_lt _ _)))) ?_
  refine sy_Fs (sy_lconst xc142_78 sy_refl) ?_
  refine sy_Fs (sy_ild xc142_79 rfl rfl sy_refl) ?_
  refine sy_Fs (sy_iconst (v := 1) xc142_81 (by decide) sy_refl) ?_
  refine sy_Fs (sx_isub (z := 27) xc142_82 (by decide)) ?_
  refine sy_Fs (sx_i2l xc142_83 (by first | decide | assumption | omega | exact mo_rd_lt _ _ | exact mo_add_lt _ _ | exact mo_sub_lt _ _ | exact mo_mul_lt _ _ | exact mo_shl_lt _ _ | exact mo_ushr_lt _ _ | exact mo_or_lt (by decide) (mo_and_lt (mo_rd_lt _ _)) | exact mo_or_lt (mo_shl_lt _ _) (mo_and_lt (mo_rd_lt _ _)))) ?_
  refine sy_Fs (sy_callG (kd := 1) (as := [(1, place, 0), (1, 0, 0), (1, 27, 0)]) (S0 := []) (ret := [(0, 1, 0)]) xc142_84 (sy_calS (as := [(1, place, 0), (1, 0, 0), (1, 27, 0)]) (S0 := []) xm142_147 rfl rfl) rfl rfl rfl rfl (sy_oka (sy_oks_cons (sy_ok1 (by first | decide | assumption | omega | exact mo_rd_lt _ _ | exact mo_add_lt _ _ | exact mo_sub_lt _ _ | exact mo_mul_lt _ _ | exact mo_shl_lt _ _ | exact mo_ushr_lt _ _ | exact mo_or_lt (by decide) (mo_and_lt (mo_rd_lt _ _)) | exact mo_or_lt (mo_shl_lt _ _) (mo_and_lt (mo_rd_lt _ _)))) (sy_oks_cons (sy_ok1 (by first | decide | assumption | omega | exact mo_rd_lt _ _ | exact mo_add_lt _ _ | exact mo_sub_lt _ _ | exact mo_mul_lt _ _ | exact mo_shl_lt _ _ | exact mo_ushr_lt _ _ | exact mo_or_lt (by decide) (mo_and_lt (mo_rd_lt _ _)) | exact mo_or_lt (mo_shl_lt _ _) (mo_and_lt (mo_rd_lt _ _)))) (sy_oks_cons (sy_ok1 (by first | decide | assumption | omega | exact mo_rd_lt _ _ | exact mo_add_lt _ _ | exact mo_sub_lt _ _ | exact mo_mul_lt _ _ | exact mo_shl_lt _ _ | exact mo_ushr_lt _ _ | exact mo_or_lt (by decide) (mo_and_lt (mo_rd_lt _ _)) | exact mo_or_lt (mo_shl_lt _ _) (mo_and_lt (mo_rd_lt _ _)))) sy_oks_nil))) rfl xl98) (wr_in (n := n) (by first | decide | assumption | omega) (by first | decide | assumption | omega) (by first | decide | assumption | omega)) (by decide) (by rw [xl98]; decide) sy_refl) ?_
  refine sy_Fs (sy_ifne_t (pc' := 92) xc142_87 (by decide) (by decide) (by decide) (by decide) sy_refl) ?_
  refine sy_Fs (sy_ildn xc142_92 rfl rfl sy_refl) ?_
  refine sy_Fs (sy_ifne_t (pc' := 105) xc142_93 (by decide) (by decide) (by decide) (by decide) sy_refl) ?_
  refine sy_Fs (sy_aldn xc142_105 rfl rfl sy_refl) ?_
  refine sy_Fs (sy_aldn xc142_106 rfl rfl sy_refl) ?_
  refine sy_Fs (sy_gf xc142_107 xf142_385 rfl (wh_at hw 0 rfl) rfl (fh_at hX0 14 rfl rfl) sy_refl) ?_
  refine sy_Fs (sy_bipush (v := 32) xc142_110 (by decide) (by decide) sy_refl) ?_
  refine sy_Fs (sy_ildn xc142_112 rfl rfl sy_refl) ?_
  refine sy_Fs (sx_imul (z := 0) xc142_113 (by decide)) ?_
  refine sy_Fs (sy_callG (kd := 3) (as := [(2, pl 0, 0), (2, pl 12, 0), (0, 0, 0)]) (S0 := []) (ret := [(0, (rf_a Hi Bi 0), 0)]) xc142_114 (sy_calV (as := [(2, pl 0, 0), (2, pl 12, 0), (0, 0, 0)]) (S0 := []) xm142_675 rfl rfl) rfl rfl (sy_rcvm xi144 (wh_at hw 0 rfl)) rfl (sy_oka (sy_oks_cons (sy_ok2 (wh_lt hw 0 (by first | decide | assumption))) (sy_oks_cons (sy_ok2 (wh_lt hw 12 (by first | decide | assumption))) (sy_oks_cons (sy_ok0 (by first | decide | assumption | omega | exact mo_rd_lt _ _ | exact mo_add_lt _ _ | exact mo_sub_lt _ _ | exact mo_mul_lt _ _ | exact mo_shl_lt _ _ | exact mo_ushr_lt _ _ | exact mo_or_lt (by decide) (mo_and_lt (mo_rd_lt _ _)) | exact mo_or_lt (mo_shl_lt _ _) (mo_and_lt (mo_rd_lt _ _)))) sy_oks_nil))) rfl xl144) (sy_Cw (wr_find (n := n) hw hX0 (jf := 12) (at_ := 0) (by decide) rfl (by first | decide | assumption | omega) (by first | decide | assumption | omega))) (by decide) (by rw [xl144]; decide) sy_refl) ?_
  rw [eB]
  refine sy_Fs (sx_ist (j := 6) (ls' := [(2, pl 0, 0), (0, 0, 0), (0, 2, 0), (0, place, 0), (0, mask, 0), (0, 28, 0), (0, 0, 0)]) xc142_117 rfl (sy_ok0 (by first | decide | assumption | omega | exact mo_rd_lt _ _ | exact mo_add_lt _ _ | exact mo_sub_lt _ _ | exact mo_mul_lt _ _ | exact mo_shl_lt _ _ | exact mo_ushr_lt _ _ | exact mo_or_lt (by decide) (mo_and_lt (mo_rd_lt _ _)) | exact mo_or_lt (mo_shl_lt _ _) (mo_and_lt (mo_rd_lt _ _)))) (by rw [xl142]; rfl) rfl rfl) ?_
  refine sy_Fs (sy_ild xc142_119 rfl rfl sy_refl) ?_
  refine sy_Fs (sy_ifge_t (pc' := 126) xc142_121 (by decide) (by decide) (by decide) sy_refl) ?_
  refine sy_Fs (sy_ildn xc142_126 rfl rfl sy_refl) ?_
  refine sy_Fs (sy_iconst (v := 1) xc142_127 (by decide) sy_refl) ?_
  refine sy_Fs (sy_icmpne_t (pc' := 144) xc142_128 (by decide) (by decide) (by decide) (by decide) (by decide) sy_refl) ?_
  refine sy_Fs (sy_aldn xc142_144 rfl rfl sy_refl) ?_
  refine sy_Fs (sy_gf xc142_145 xf142_460 rfl (wh_at hw 0 rfl) rfl (fh_at hX0 22 rfl rfl) sy_refl) ?_
  refine sy_Fs (sy_ild xc142_148 rfl rfl sy_refl) ?_
  refine sy_Fs (sx_zal (z := 0) xc142_150 (wh_at hw 20 rfl) (by decide) (by decide) hhh) ?_
  refine sy_Fs (sy_ifeq_t (pc' := 156) xc142_151 (by decide) (by decide) (by decide) sy_refl) ?_
  refine sy_Fs (sy_ildn xc142_156 rfl rfl sy_refl) ?_
  refine sy_Fs (sy_iconst (v := 1) xc142_157 (by decide) sy_refl) ?_
  refine sy_Fs (sy_icmpne_t (pc' := 177) xc142_158 (by decide) (by decide) (by decide) (by decide) (by decide) sy_refl) ?_
  refine sy_Fs (sy_aldn xc142_177 rfl rfl sy_refl) ?_
  refine sy_Fs (sy_ild xc142_178 rfl rfl sy_refl) ?_
  refine sy_Fs (sy_ildn xc142_180 rfl rfl sy_refl) ?_
  refine sy_Fs (sy_ildn xc142_181 rfl rfl sy_refl) ?_
  refine sy_Fs (sy_ild xc142_182 rfl rfl sy_refl) ?_
  obtain ⟨ret, w, rfl, hC⟩ := rg_blkN (n := n) hw hX0 hbs hp hm1 hm2 hbad
  refine sy_Fs (sy_callG (kd := 3) (as := [(2, pl 0, 0), (0, 0, 0), (0, 0, 0), (0, place, 0), (0, mask, 0)]) (S0 := []) (ret := [(0, 0, 0)]) xc142_184 (sy_calV (as := [(2, pl 0, 0), (0, 0, 0), (0, 0, 0), (0, place, 0), (0, mask, 0)]) (S0 := []) xm142_702 rfl rfl) rfl rfl (sy_rcvm xi146 (wh_at hw 0 rfl)) rfl (sy_oka (sy_oks_cons (sy_ok2 (wh_lt hw 0 (by first | decide | assumption))) (sy_oks_cons (sy_ok0 (by first | decide | assumption | omega | exact mo_rd_lt _ _ | exact mo_add_lt _ _ | exact mo_sub_lt _ _ | exact mo_mul_lt _ _ | exact mo_shl_lt _ _ | exact mo_ushr_lt _ _ | exact mo_or_lt (by decide) (mo_and_lt (mo_rd_lt _ _)) | exact mo_or_lt (mo_shl_lt _ _) (mo_and_lt (mo_rd_lt _ _)))) (sy_oks_cons (sy_ok0 (by first | decide | assumption | omega | exact mo_rd_lt _ _ | exact mo_add_lt _ _ | exact mo_sub_lt _ _ | exact mo_mul_lt _ _ | exact mo_shl_lt _ _ | exact mo_ushr_lt _ _ | exact mo_or_lt (by decide) (mo_and_lt (mo_rd_lt _ _)) | exact mo_or_lt (mo_shl_lt _ _) (mo_and_lt (mo_rd_lt _ _)))) (sy_oks_cons (sy_ok0 (by first | decide | assumption | omega | exact mo_rd_lt _ _ | exact mo_add_lt _ _ | exact mo_sub_lt _ _ | exact mo_mul_lt _ _ | exact mo_shl_lt _ _ | exact mo_ushr_lt _ _ | exact mo_or_lt (by decide) (mo_and_lt (mo_rd_lt _ _)) | exact mo_or_lt (mo_shl_lt _ _) (mo_and_lt (mo_rd_lt _ _)))) (sy_oks_cons (sy_ok0 (by first | decide | assumption | omega | exact mo_rd_lt _ _ | exact mo_add_lt _ _ | exact mo_sub_lt _ _ | exact mo_mul_lt _ _ | exact mo_shl_lt _ _ | exact mo_ushr_lt _ _ | exact mo_or_lt (by decide) (mo_and_lt (mo_rd_lt _ _)) | exact mo_or_lt (mo_shl_lt _ _) (mo_and_lt (mo_rd_lt _ _)))) sy_oks_nil))))) rfl xl146) hC (by decide) (by rw [xl146]; decide) sy_refl) ?_
  refine sy_Fs (sy_ifne_f xc142_187 (by decide) (by decide) sy_refl) ?_
  refine sy_Fs (sy_iconst (v := 0) xc142_190 (by decide) sy_refl) ?_
  exact sy_Fi xc142_191 xr142 rfl rfl
end RB
