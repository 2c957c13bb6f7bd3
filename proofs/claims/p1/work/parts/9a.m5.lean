/-! THE REFERENCE'S MINE, V: build's loop -/
theorem xc132_0 : tt_cd 132 0 = (2, .iconst 0, 1) := by decide +kernel
theorem xc132_1 : tt_cd 132 1 = (1, .istore_n 3, 1) := by decide +kernel
theorem xl132 : tt_mL 132 = 4 := by decide +kernel
theorem xc132_2 : tt_cd 132 2 = (1, .iload_n 3, 1) := by decide +kernel
theorem xc132_3 : tt_cd 132 3 = (1, .iload_n 2, 1) := by decide +kernel
theorem xc132_4 : tt_cd 132 4 = (5, .if_icmp .ge 33, 3) := by decide +kernel
theorem xc132_7 : tt_cd 132 7 = (1, .aload_n 0, 1) := by decide +kernel
theorem xc132_8 : tt_cd 132 8 = (1, .iload_n 1, 1) := by decide +kernel
theorem xc132_9 : tt_cd 132 9 = (1, .iload_n 3, 1) := by decide +kernel
theorem xc132_10 : tt_cd 132 10 = (4, .bipush 8, 2) := by decide +kernel
theorem xc132_12 : tt_cd 132 12 = (2, .idiv, 1) := by decide +kernel
theorem xc132_13 : tt_cd 132 13 = (2, .iadd, 1) := by decide +kernel
theorem xc132_14 : tt_cd 132 14 = (3, .baload, 1) := by decide +kernel
theorem xc132_15 : tt_cd 132 15 = (4, .bipush 7, 2) := by decide +kernel
theorem xc132_17 : tt_cd 132 17 = (1, .iload_n 3, 1) := by decide +kernel
theorem xc132_18 : tt_cd 132 18 = (4, .bipush 8, 2) := by decide +kernel
theorem xc132_20 : tt_cd 132 20 = (2, .irem, 1) := by decide +kernel
theorem xc132_21 : tt_cd 132 21 = (2, .isub, 1) := by decide +kernel
theorem xc132_22 : tt_cd 132 22 = (2, .ishr, 1) := by decide +kernel
theorem xc132_23 : tt_cd 132 23 = (2, .iconst 1, 1) := by decide +kernel
theorem xc132_24 : tt_cd 132 24 = (2, .iand, 1) := by decide +kernel
theorem xc132_25 : tt_cd 132 25 = (2, .iconst 1, 1) := by decide +kernel
theorem xc132_26 : tt_cd 132 26 = (5, .if_icmp .ne 5, 3) := by decide +kernel
theorem xc132_29 : tt_cd 132 29 = (2, .iconst 0, 1) := by decide +kernel
theorem xc132_30 : tt_cd 132 30 = (9, .ireturn, 1) := by decide +kernel
theorem xc132_31 : tt_cd 132 31 = (1, .iinc 3 1, 3) := by decide +kernel
theorem xc132_34 : tt_cd 132 34 = (5, .goto (-32), 3) := by decide +kernel
theorem xc132_37 : tt_cd 132 37 = (2, .iconst 1, 1) := by decide +kernel
theorem xc132_38 : tt_cd 132 38 = (9, .ireturn, 1) := by decide +kernel
theorem xr132 : tt_mr 132 = 4 := by decide +kernel
theorem xc126_546 : tt_cd 126 546 = (1, .iload 8, 2) := by decide +kernel
theorem xc126_548 : tt_cd 126 548 = (5, .ifCond .ne 78, 3) := by decide +kernel
theorem xc126_551 : tt_cd 126 551 = (1, .aload_n 0, 1) := by decide +kernel
theorem xc126_552 : tt_cd 126 552 = (3, .getfield 400, 3) := by decide +kernel
theorem xf126_400 : tt_fl 126 400 = (1, 0, 43) := by decide +kernel
theorem xc126_555 : tt_cd 126 555 = (1, .iload 5, 2) := by decide +kernel
theorem xc126_557 : tt_cd 126 557 = (2, .dup2, 1) := by decide +kernel
theorem xc126_558 : tt_cd 126 558 = (3, .iaload, 1) := by decide +kernel
theorem xc126_559 : tt_cd 126 559 = (2, .iconst 1, 1) := by decide +kernel
theorem xc126_560 : tt_cd 126 560 = (2, .iadd, 1) := by decide +kernel
theorem xc126_561 : tt_cd 126 561 = (6, .iastore, 1) := by decide +kernel
theorem xc126_562 : tt_cd 126 562 = (1, .aload_n 0, 1) := by decide +kernel
theorem xc126_563 : tt_cd 126 563 = (3, .getfield 382, 3) := by decide +kernel
theorem xf126_382 : tt_fl 126 382 = (1, 0, 37) := by decide +kernel
theorem xc126_566 : tt_cd 126 566 = (1, .iload 7, 2) := by decide +kernel
theorem xc126_568 : tt_cd 126 568 = (4, .bipush 101, 2) := by decide +kernel
theorem xc126_570 : tt_cd 126 570 = (2, .iadd, 1) := by decide +kernel
theorem xc126_571 : tt_cd 126 571 = (1, .aload_n 0, 1) := by decide +kernel
theorem xc126_572 : tt_cd 126 572 = (3, .getfield 400, 3) := by decide +kernel
theorem xc126_575 : tt_cd 126 575 = (1, .iload 5, 2) := by decide +kernel
theorem xc126_577 : tt_cd 126 577 = (3, .iaload, 1) := by decide +kernel
theorem xc126_578 : tt_cd 126 578 = (10, .invokestatic 144, 3) := by decide +kernel
theorem xm126_144 : tt_ml 126 144 = (1, 96, 3) := by decide +kernel
theorem xc126_581 : tt_cd 126 581 = (1, .aload_n 0, 1) := by decide +kernel
theorem xc126_582 : tt_cd 126 582 = (1, .aload_n 0, 1) := by decide +kernel
theorem xc126_583 : tt_cd 126 583 = (3, .getfield 382, 3) := by decide +kernel
theorem xc126_586 : tt_cd 126 586 = (1, .iload 7, 2) := by decide +kernel
theorem xc126_588 : tt_cd 126 588 = (4, .bipush 105, 2) := by decide +kernel
theorem xc126_590 : tt_cd 126 590 = (1, .aload_n 0, 1) := by decide +kernel
theorem xc126_591 : tt_cd 126 591 = (3, .getfield 385, 3) := by decide +kernel
theorem xf126_385 : tt_fl 126 385 = (1, 0, 38) := by decide +kernel
theorem xc126_594 : tt_cd 126 594 = (4, .bipush 32, 2) := by decide +kernel
theorem xc126_596 : tt_cd 126 596 = (1, .iload 5, 2) := by decide +kernel
theorem xc126_598 : tt_cd 126 598 = (2, .imul, 1) := by decide +kernel
theorem xc126_599 : tt_cd 126 599 = (10, .invokevirtual 156, 3) := by decide +kernel
theorem xm126_156 : tt_ml 126 156 = (3, 100, 5) := by decide +kernel
theorem xc126_602 : tt_cd 126 602 = (1, .aload_n 0, 1) := by decide +kernel
theorem xc126_603 : tt_cd 126 603 = (3, .getfield 385, 3) := by decide +kernel
theorem xc126_606 : tt_cd 126 606 = (4, .bipush 32, 2) := by decide +kernel
theorem xc126_608 : tt_cd 126 608 = (1, .iload 5, 2) := by decide +kernel
theorem xc126_610 : tt_cd 126 610 = (2, .imul, 1) := by decide +kernel
theorem xc126_611 : tt_cd 126 611 = (1, .aload_n 0, 1) := by decide +kernel
theorem xc126_612 : tt_cd 126 612 = (3, .getfield 397, 3) := by decide +kernel
theorem xf126_397 : tt_fl 126 397 = (1, 0, 42) := by decide +kernel
theorem xc126_615 : tt_cd 126 615 = (1, .iload 5, 2) := by decide +kernel
theorem xc126_617 : tt_cd 126 617 = (3, .iaload, 1) := by decide +kernel
theorem xc126_618 : tt_cd 126 618 = (10, .invokestatic 658, 3) := by decide +kernel
theorem xm126_658 : tt_ml 126 658 = (1, 132, 3) := by decide +kernel
theorem xc126_621 : tt_cd 126 621 = (1, .istore 8, 2) := by decide +kernel
theorem xl126 : tt_mL 126 = 9 := by decide +kernel
theorem xc126_623 : tt_cd 126 623 = (5, .goto (-77), 3) := by decide +kernel
section IP
variable {n : Nat} {pl : Nat → Nat} {w0 w : mv_T 10} {X0 Pc Wd Vv St Af Mi Hd Bi Bf Hg Tm Bo Wk Pn Bs Mt Pst Ppl Psz Bb Pid So Fn Fc Fl Fs Ou Ly No Bu th up lp sc ba : Nat}
def ip_n (b : Nat) : Nat := if mo_and (mo_shr b 7) 1 = 1 then 0 else if mo_and (mo_shr b 6) 1 = 1 then 0 else 1
theorem ip_lt (b : Nat) : ip_n b < 2 := by
  unfold ip_n
  by_cases h : mo_and (mo_shr b 7) 1 = 1
  · rw [if_pos h]; decide
  · rw [if_neg h]
    by_cases g : mo_and (mo_shr b 6) 1 = 1
    · rw [if_pos g]; decide
    · rw [if_neg g]; decide
theorem wq_ip (hw : wh 32 pl w0 w [(0, 0, 107, X0), (1, 1, 64, Pc), (1, 0, 64, mc_K), (1, 0, 64, Wd), (1, 0, 8, Vv), (1, 0, 8, St), (1, 0, 8, Af), (1, 1, 32, Mi), (1, 1, 4200, Hd), (1, 1, 1280, Bi), (1, 0, 40, Bf), (1, 0, 40, Hg), (1, 0, 40, Tm), (1, 0, 40, Bo), (1, 0, 40, Wk), (1, 0, 40, Pn), (1, 0, 40, Bs), (1, 1, 28, Mt), (1, 0, 160, Pst), (1, 0, 160, Ppl), (1, 0, 160, Psz), (1, 1, 76000, Bb), (1, 1, 5120, Pid), (1, 1, 600, So), (1, 0, 960, Fn), (1, 0, 40, Fc), (1, 1, 3200, Fl), (1, 0, 40, Fs), (1, 1, 32, Ou), (1, 1, 2400, Ly), (1, 0, 40, No), (1, 1, 20, Bu)]) (hX0 : fh X0 jQ [(0, th, 0), (2, pl 1, 0), (2, pl 2, 0), (2, pl 3, 0), (2, pl 4, 0), (2, pl 5, 0), (2, pl 6, 0), (2, pl 7, 0), (0, up, 0), (1, lp, 0), (2, pl 8, 0), (2, pl 9, 0), (2, pl 10, 0), (2, pl 11, 0), (2, pl 12, 0), (2, pl 13, 0), (2, pl 14, 0), (2, pl 15, 0), (2, pl 16, 0), (2, pl 17, 0), (2, pl 18, 0), (2, pl 19, 0), (2, pl 20, 0), (2, pl 21, 0), (2, pl 22, 0), (2, pl 23, 0), (2, pl 24, 0), (2, pl 25, 0), (2, pl 26, 0), (2, pl 27, 0), (2, pl 28, 0), (2, pl 29, 0), (2, pl 30, 0), (2, pl 31, 0), (0, 1, 0), (0, 0, 0), (0, sc, 0), (0, ba, 0), (0, 0, 0)])  : sy_D 132 n 0 0 [(2, pl 9, 0), (0, 32, 0), (0, 2, 0)] w (fun ret w' => ret = [(0, ip_n (mv_rd 32 Bi 32), 0)] ∧ w' = w) := by
  refine sy_Dof (us := [(255, 0, 0)]) (sy_oks_cons (sy_ok2 (wh_lt hw 9 (by first | decide | assumption))) (sy_oks_cons (sy_ok0 (by first | decide | assumption | omega | exact mo_rd_lt _ _ | exact mo_add_lt _ _ | exact mo_sub_lt _ _ | exact mo_mul_lt _ _ | exact mo_shl_lt _ _ | exact mo_ushr_lt _ _ | exact mo_or_lt (by decide) (mo_and_lt (mo_rd_lt _ _)) | exact mo_or_lt (mo_shl_lt _ _) (mo_and_lt (mo_rd_lt _ _)))) (sy_oks_cons (sy_ok0 (by first | decide | assumption | omega | exact mo_rd_lt _ _ | exact mo_add_lt _ _ | exact mo_sub_lt _ _ | exact mo_mul_lt _ _ | exact mo_shl_lt _ _ | exact mo_ushr_lt _ _ | exact mo_or_lt (by decide) (mo_and_lt (mo_rd_lt _ _)) | exact mo_or_lt (mo_shl_lt _ _) (mo_and_lt (mo_rd_lt _ _)))) sy_oks_nil))) rfl rfl ?_
  show sy_F 132 n 0 0 0 [(2, pl 9, 0), (0, 32, 0), (0, 2, 0), (255, 0, 0)] [] w _
  refine sy_Fs (sy_iconst (v := 0) xc132_0 (by decide) sy_refl) ?_
  refine sy_Fs (sx_istn (j := 3) (ls' := [(2, pl 9, 0), (0, 32, 0), (0, 2, 0), (0, 0, 0)]) xc132_1 rfl rfl (sy_ok0 (by first | decide | assumption | omega | exact mo_rd_lt _ _ | exact mo_add_lt _ _ | exact mo_sub_lt _ _ | exact mo_mul_lt _ _ | exact mo_shl_lt _ _ | exact mo_ushr_lt _ _ | exact mo_or_lt (by decide) (mo_and_lt (mo_rd_lt _ _)) | exact mo_or_lt (mo_shl_lt _ _) (mo_and_lt (mo_rd_lt _ _)))) (by rw [xl132]; rfl) rfl rfl) ?_
  refine sy_Fs (sy_ildn xc132_2 rfl rfl sy_refl) ?_
  refine sy_Fs (sy_ildn xc132_3 rfl rfl sy_refl) ?_
  refine sy_Fs (sy_ge_f xc132_4 (by decide) (by decide) (by decide) sy_refl) ?_
  refine sy_Fs (sy_aldn xc132_7 rfl rfl sy_refl) ?_
  refine sy_Fs (sy_ildn xc132_8 rfl rfl sy_refl) ?_
  refine sy_Fs (sy_ildn xc132_9 rfl rfl sy_refl) ?_
  refine sy_Fs (sy_bipush (v := 8) xc132_10 (by decide) (by decide) sy_refl) ?_
  refine sy_Fs (sx_idiv (z := 0) xc132_12 (by decide) (by decide)) ?_
  refine sy_Fs (sx_iadd (z := 32) xc132_13 (by decide)) ?_
  refine sy_Fs (sx_bal (z := (mv_rd 32 Bi 32)) xc132_14 (wh_at hw 9 rfl) (by decide) (by decide) rfl) ?_
  refine sy_Fs (sy_bipush (v := 7) xc132_15 (by decide) (by decide) sy_refl) ?_
  refine sy_Fs (sy_ildn xc132_17 rfl rfl sy_refl) ?_
  refine sy_Fs (sy_bipush (v := 8) xc132_18 (by decide) (by decide) sy_refl) ?_
  refine sy_Fs (sx_irem (z := 0) xc132_20 (by decide) (by decide)) ?_
  refine sy_Fs (sx_isub (z := 7) xc132_21 (by decide)) ?_
  refine sy_Fs (sx_ishr (z := (mo_shr (mv_rd 32 Bi 32) 7)) xc132_22 rfl) ?_
  refine sy_Fs (sy_iconst (v := 1) xc132_23 (by decide) sy_refl) ?_
  refine sy_Fs (sx_iand (z := (mo_and (mo_shr (mv_rd 32 Bi 32) 7) 1)) xc132_24 rfl) ?_
  refine sy_Fs (sy_iconst (v := 1) xc132_25 (by decide) sy_refl) ?_
  by_cases h : mo_and (mo_shr (mv_rd 32 Bi 32) 7) 1 = 1
  ·
    refine sy_Fs (sy_icmpne_f xc132_26 (by decide) h sy_refl) ?_
    refine sy_Fs (sy_iconst (v := 0) xc132_29 (by decide) sy_refl) ?_
    exact sy_Fz xc132_30 xr132 (by first | decide | assumption | omega) ⟨by unfold ip_n; rw [if_pos h], rfl⟩
  ·
    refine sy_Fs (sy_icmpne_t (pc' := 31) xc132_26 (by decide) h (mo_and_lt (mo_shr_lt _ _)) (by decide) (by decide) sy_refl) ?_
    refine sy_Fs (sx_iinc (c := 1) (z := 1) (ls' := [(2, pl 9, 0), (0, 32, 0), (0, 2, 0), (0, 1, 0)]) xc132_31 rfl (by decide) (by rw [xl132]; rfl) rfl (by decide) rfl) ?_
    refine sy_Fs (sy_goto (pc' := 2) xc132_34 (by decide) (by decide) sy_refl) ?_
    refine sy_Fs (sy_ildn xc132_2 rfl rfl sy_refl) ?_
    refine sy_Fs (sy_ildn xc132_3 rfl rfl sy_refl) ?_
    refine sy_Fs (sy_ge_f xc132_4 (by decide) (by decide) (by decide) sy_refl) ?_
    refine sy_Fs (sy_aldn xc132_7 rfl rfl sy_refl) ?_
    refine sy_Fs (sy_ildn xc132_8 rfl rfl sy_refl) ?_
    refine sy_Fs (sy_ildn xc132_9 rfl rfl sy_refl) ?_
    refine sy_Fs (sy_bipush (v := 8) xc132_10 (by decide) (by decide) sy_refl) ?_
    refine sy_Fs (sx_idiv (z := 0) xc132_12 (by decide) (by decide)) ?_
    refine sy_Fs (sx_iadd (z := 32) xc132_13 (by decide)) ?_
    refine sy_Fs (sx_bal (z := (mv_rd 32 Bi 32)) xc132_14 (wh_at hw 9 rfl) (by decide) (by decide) rfl) ?_
    refine sy_Fs (sy_bipush (v := 7) xc132_15 (by decide) (by decide) sy_refl) ?_
    refine sy_Fs (sy_ildn xc132_17 rfl rfl sy_refl) ?_
    refine sy_Fs (sy_bipush (v := 8) xc132_18 (by decide) (by decide) sy_refl) ?_
    refine sy_Fs (sx_irem (z := 1) xc132_20 (by decide) (by decide)) ?_
    refine sy_Fs (sx_isub (z := 6) xc132_21 (by decide)) ?_
    refine sy_Fs (sx_ishr (z := (mo_shr (mv_rd 32 Bi 32) 6)) xc132_22 rfl) ?_
    refine sy_Fs (sy_iconst (v := 1) xc132_23 (by decide) sy_refl) ?_
    refine sy_Fs (sx_iand (z := (mo_and (mo_shr (mv_rd 32 Bi 32) 6) 1)) xc132_24 rfl) ?_
    refine sy_Fs (sy_iconst (v := 1) xc132_25 (by decide) sy_refl) ?_
    by_cases g : mo_and (mo_shr (mv_rd 32 Bi 32) 6) 1 = 1
    ·
      refine sy_Fs (sy_icmpne_f xc132_26 (by decide) g sy_refl) ?_
      refine sy_Fs (sy_iconst (v := 0) xc132_29 (by decide) sy_refl) ?_
      exact sy_Fz xc132_30 xr132 (by first | decide | assumption | omega) ⟨by unfold ip_n; rw [if_neg h, if_pos g], rfl⟩
    ·
      refine sy_Fs (sy_icmpne_t (pc' := 31) xc132_26 (by decide) g (mo_and_lt (mo_shr_lt _ _)) (by decide) (by decide) sy_refl) ?_
      refine sy_Fs (sx_iinc (c := 1) (z := 2) (ls' := [(2, pl 9, 0), (0, 32, 0), (0, 2, 0), (0, 2, 0)]) xc132_31 rfl (by decide) (by rw [xl132]; rfl) rfl (by decide) rfl) ?_
      refine sy_Fs (sy_goto (pc' := 2) xc132_34 (by decide) (by decide) sy_refl) ?_
      refine sy_Fs (sy_ildn xc132_2 rfl rfl sy_refl) ?_
      refine sy_Fs (sy_ildn xc132_3 rfl rfl sy_refl) ?_
      refine sy_Fs (sy_ge_t (pc' := 37) xc132_4 (by decide) (by decide) (by decide) (by decide) sy_refl) ?_
      refine sy_Fs (sy_iconst (v := 1) xc132_37 (by decide) sy_refl) ?_
      exact sy_Fz xc132_38 xr132 (by first | decide | assumption | omega) ⟨by unfold ip_n; rw [if_neg h, if_neg g], rfl⟩
theorem bl_1 (hw : wh 32 pl w0 w [(0, 0, 107, X0), (1, 1, 64, Pc), (1, 0, 64, mc_K), (1, 0, 64, Wd), (1, 0, 8, Vv), (1, 0, 8, St), (1, 0, 8, Af), (1, 1, 32, Mi), (1, 1, 4200, Hd), (1, 1, 1280, Bi), (1, 0, 40, Bf), (1, 0, 40, Hg), (1, 0, 40, Tm), (1, 0, 40, Bo), (1, 0, 40, Wk), (1, 0, 40, Pn), (1, 0, 40, Bs), (1, 1, 28, Mt), (1, 0, 160, Pst), (1, 0, 160, Ppl), (1, 0, 160, Psz), (1, 1, 76000, Bb), (1, 1, 5120, Pid), (1, 1, 600, So), (1, 0, 960, Fn), (1, 0, 40, Fc), (1, 1, 3200, Fl), (1, 0, 40, Fs), (1, 1, 32, Ou), (1, 1, 2400, Ly), (1, 0, 40, No), (1, 1, 20, Bu)]) (hX0 : fh X0 jQ [(0, th, 0), (2, pl 1, 0), (2, pl 2, 0), (2, pl 3, 0), (2, pl 4, 0), (2, pl 5, 0), (2, pl 6, 0), (2, pl 7, 0), (0, up, 0), (1, lp, 0), (2, pl 8, 0), (2, pl 9, 0), (2, pl 10, 0), (2, pl 11, 0), (2, pl 12, 0), (2, pl 13, 0), (2, pl 14, 0), (2, pl 15, 0), (2, pl 16, 0), (2, pl 17, 0), (2, pl 18, 0), (2, pl 19, 0), (2, pl 20, 0), (2, pl 21, 0), (2, pl 22, 0), (2, pl 23, 0), (2, pl 24, 0), (2, pl 25, 0), (2, pl 26, 0), (2, pl 27, 0), (2, pl 28, 0), (2, pl 29, 0), (2, pl 30, 0), (2, pl 31, 0), (0, 1, 0), (0, 0, 0), (0, sc, 0), (0, ba, 0), (0, 0, 0)]) {fr lo sec nv m : Nat} {f : Nat → Nat} {Q : List mv_V → mv_T 10 → Prop} (hfr : 8 ≤ fr) (hlo : 300 ≤ lo) (hA : ∀ i, i < 8 → mv_rd 32 Af i = mv_rd 32 hs_S0 i) (hsec : sec ≤ 1000) (hnv : mv_rd 32 No 1 = nv) (hm : mo_add nv 1 = m) (hml : m < 4294967296) (hbo : mv_rd 32 Bo 1 = 2) (hf : ∀ j, j < 105 → mv_rd 32 (pw_4 Hd 206 m) (105 + j) = f j) (K : ∀ (w : mv_T 10) (X0 P1 W1 V1 S1 M1 T1 u1 l1 : Nat), (∀ j, j < 32 → mv_rd 32 T1 (32 + j) = bk_D (hs_2 f 105) j) → wh 32 pl w0 w [(0, 0, 107, X0), (1, 1, 64, P1), (1, 0, 64, mc_K), (1, 0, 64, W1), (1, 0, 8, V1), (1, 0, 8, S1), (1, 0, 8, Af), (1, 1, 32, M1), (1, 1, 4200, (pw_4 Hd 206 m)), (1, 1, 1280, T1), (1, 0, 40, Bf), (1, 0, 40, Hg), (1, 0, 40, Tm), (1, 0, 40, Bo), (1, 0, 40, Wk), (1, 0, 40, Pn), (1, 0, 40, Bs), (1, 1, 28, Mt), (1, 0, 160, Pst), (1, 0, 160, Ppl), (1, 0, 160, Psz), (1, 1, 76000, Bb), (1, 1, 5120, Pid), (1, 1, 600, So), (1, 0, 960, Fn), (1, 0, 40, Fc), (1, 1, 3200, Fl), (1, 0, 40, Fs), (1, 1, 32, Ou), (1, 1, 2400, Ly), (1, 0, 40, (mv_wr 32 No 1 m)), (1, 1, 20, Bu)] → fh X0 jQ [(0, th, 0), (2, pl 1, 0), (2, pl 2, 0), (2, pl 3, 0), (2, pl 4, 0), (2, pl 5, 0), (2, pl 6, 0), (2, pl 7, 0), (0, u1, 0), (1, l1, 0), (2, pl 8, 0), (2, pl 9, 0), (2, pl 10, 0), (2, pl 11, 0), (2, pl 12, 0), (2, pl 13, 0), (2, pl 14, 0), (2, pl 15, 0), (2, pl 16, 0), (2, pl 17, 0), (2, pl 18, 0), (2, pl 19, 0), (2, pl 20, 0), (2, pl 21, 0), (2, pl 22, 0), (2, pl 23, 0), (2, pl 24, 0), (2, pl 25, 0), (2, pl 26, 0), (2, pl 27, 0), (2, pl 28, 0), (2, pl 29, 0), (2, pl 30, 0), (2, pl 31, 0), (0, 1, 0), (0, 0, 0), (0, sc, 0), (0, ba, 0), (0, 0, 0)] → sy_F 126 n fr lo 546 [(2, pl 0, 0), (0, 0, 0), (0, sec, 0), (2, pl 31, 0), (0, 0, 0), (0, 1, 0), (0, 0, 0), (0, 105, 0), (0, (ip_n (mv_rd 32 T1 32)), 0)] [] w Q) : sy_F 126 n fr lo 546 [(2, pl 0, 0), (0, 0, 0), (0, sec, 0), (2, pl 31, 0), (0, 0, 0), (0, 1, 0), (0, 0, 0), (0, 105, 0), (0, 0, 0)] [] w Q := by
  refine sy_Fs (sy_ild xc126_546 rfl rfl sy_refl) ?_
  refine sy_Fs (sy_ifne_f xc126_548 (by decide) (by decide) sy_refl) ?_
  refine sy_Fs (sy_aldn xc126_551 rfl rfl sy_refl) ?_
  refine sy_Fs (sy_gf xc126_552 xf126_400 rfl (wh_at hw 0 rfl) rfl (fh_at hX0 32 rfl rfl) sy_refl) ?_
  refine sy_Fs (sy_ild xc126_555 rfl rfl sy_refl) ?_
  refine sy_Fs (sy_dup2 xc126_557 rfl sy_refl) ?_
  refine sy_Fs (sx_ial (z := nv) xc126_558 (wh_at hw 30 rfl) (by decide) (by decide) hnv) ?_
  refine sy_Fs (sy_iconst (v := 1) xc126_559 (by decide) sy_refl) ?_
  refine sy_Fs (sx_iadd (z := m) xc126_560 hm) ?_
  refine sy_Fw (i := 30) (x := (1, 0, 40, (mv_wr 32 No 1 m))) hw (by decide) (sy_ias (i := 1) xc126_561 (wh_at hw 30 rfl) rfl (by decide) (by decide) rfl sy_refl) ?_
  intro w hw
  simp only [List.set_cons_zero, List.set_cons_succ] at hw
  refine sy_Fs (sy_aldn xc126_562 rfl rfl sy_refl) ?_
  refine sy_Fs (sy_gf xc126_563 xf126_382 rfl (wh_at hw 0 rfl) rfl (fh_at hX0 10 rfl rfl) sy_refl) ?_
  refine sy_Fs (sy_ild xc126_566 rfl rfl sy_refl) ?_
  refine sy_Fs (sy_bipush (v := 101) xc126_568 (by decide) (by decide) sy_refl) ?_
  refine sy_Fs (sx_iadd (z := 206) xc126_570 (by decide)) ?_
  refine sy_Fs (sy_aldn xc126_571 rfl rfl sy_refl) ?_
  refine sy_Fs (sy_gf xc126_572 xf126_400 rfl (wh_at hw 0 rfl) rfl (fh_at hX0 32 rfl rfl) sy_refl) ?_
  refine sy_Fs (sy_ild xc126_575 rfl rfl sy_refl) ?_
  refine sy_Fs (sx_ial (z := m) xc126_577 (wh_at hw 30 rfl) (by decide) (by decide) ((mv_rd_self 32 No 1 m).trans (Nat.mod_eq_of_lt hml))) ?_
  refine sy_Fw (i := 8) (x := (1, 1, 4200, (pw_4 Hd 206 m))) hw (by decide) (sy_callG (kd := 1) (as := [(2, pl 8, 0), (0, 206, 0), (0, m, 0)]) (S0 := []) (ret := []) xc126_578 (sy_calS (as := [(2, pl 8, 0), (0, 206, 0), (0, m, 0)]) (S0 := []) xm126_144 rfl rfl) rfl rfl rfl rfl (sy_oka (sy_oks_cons (sy_ok2 (wh_lt hw 8 (by first | decide | assumption))) (sy_oks_cons (sy_ok0 (by first | decide | assumption | omega | exact mo_rd_lt _ _ | exact mo_add_lt _ _ | exact mo_sub_lt _ _ | exact mo_mul_lt _ _ | exact mo_shl_lt _ _ | exact mo_ushr_lt _ _ | exact Nat.lt_trans (ip_lt _) (by decide) | exact mo_or_lt (by decide) (mo_and_lt (mo_rd_lt _ _)) | exact mo_or_lt (mo_shl_lt _ _) (mo_and_lt (mo_rd_lt _ _)))) (sy_oks_cons (sy_ok0 (by first | decide | assumption | omega | exact mo_rd_lt _ _ | exact mo_add_lt _ _ | exact mo_sub_lt _ _ | exact mo_mul_lt _ _ | exact mo_shl_lt _ _ | exact mo_ushr_lt _ _ | exact Nat.lt_trans (ip_lt _) (by decide) | exact mo_or_lt (by decide) (mo_and_lt (mo_rd_lt _ _)) | exact mo_or_lt (mo_shl_lt _ _) (mo_and_lt (mo_rd_lt _ _)))) sy_oks_nil))) rfl xl96) (pw_run (wh_lt hw 8 (by first | decide | assumption)) (wh_at hw 8 rfl) (by first | decide | assumption | omega) (by first | decide | assumption | omega) (by first | decide | assumption | omega | exact mo_rd_lt _ _ | exact mo_add_lt _ _ | exact mo_sub_lt _ _ | exact mo_mul_lt _ _ | exact mo_shl_lt _ _ | exact mo_ushr_lt _ _ | exact Nat.lt_trans (ip_lt _) (by decide) | exact mo_or_lt (by decide) (mo_and_lt (mo_rd_lt _ _)) | exact mo_or_lt (mo_shl_lt _ _) (mo_and_lt (mo_rd_lt _ _)))) (by omega) (by rw [xl96]; omega) sy_refl) ?_
  intro w hw
  simp only [List.set_cons_zero, List.set_cons_succ] at hw
  refine sy_Fs (sy_aldn xc126_581 rfl rfl sy_refl) ?_
  refine sy_Fs (sy_aldn xc126_582 rfl rfl sy_refl) ?_
  refine sy_Fs (sy_gf xc126_583 xf126_382 rfl (wh_at hw 0 rfl) rfl (fh_at hX0 10 rfl rfl) sy_refl) ?_
  refine sy_Fs (sy_ild xc126_586 rfl rfl sy_refl) ?_
  refine sy_Fs (sy_bipush (v := 105) xc126_588 (by decide) (by decide) sy_refl) ?_
  refine sy_Fs (sy_aldn xc126_590 rfl rfl sy_refl) ?_
  refine sy_Fs (sy_gf xc126_591 xf126_385 rfl (wh_at hw 0 rfl) rfl (fh_at hX0 11 rfl rfl) sy_refl) ?_
  refine sy_Fs (sy_bipush (v := 32) xc126_594 (by decide) (by decide) sy_refl) ?_
  refine sy_Fs (sy_ild xc126_596 rfl rfl sy_refl) ?_
  refine sy_Fs (sx_imul (z := 32) xc126_598 (by decide)) ?_
  obtain ⟨w, X0, P1, W1, V1, S1, M1, T1, u1, l1, hC, hw1, hX1x, ⟨hu1, hl1⟩, hT1⟩ := wq_hash (n := n) (fa := 105) (at_ := 32) (nn := 105) (it := 9) (jf := 8) (f := f) hw rfl rfl rfl rfl rfl rfl rfl rfl rfl (by decide) (by decide) rfl (by decide) (by decide) hX0 rfl rfl rfl rfl rfl rfl rfl rfl rfl (by first | decide | assumption | omega) (by first | decide | assumption | omega) (by first | decide | assumption | omega) (by first | decide | assumption | omega) hA hf (by first | decide | assumption | omega)
  refine sy_Fs (sy_callG (kd := 3) (as := [(2, pl 0, 0), (2, pl 8, 0), (0, 105, 0), (0, 105, 0), (2, pl 9, 0), (0, 32, 0)]) (S0 := []) (ret := []) xc126_599 (sy_calV (as := [(2, pl 0, 0), (2, pl 8, 0), (0, 105, 0), (0, 105, 0), (2, pl 9, 0), (0, 32, 0)]) (S0 := []) xm126_156 rfl rfl) rfl rfl (sy_rcvm xi100 (wh_at hw 0 rfl)) rfl (sy_oka (sy_oks_cons (sy_ok2 (wh_lt hw 0 (by first | decide | assumption))) (sy_oks_cons (sy_ok2 (wh_lt hw 8 (by first | decide | assumption))) (sy_oks_cons (sy_ok0 (by first | decide | assumption | omega | exact mo_rd_lt _ _ | exact mo_add_lt _ _ | exact mo_sub_lt _ _ | exact mo_mul_lt _ _ | exact mo_shl_lt _ _ | exact mo_ushr_lt _ _ | exact Nat.lt_trans (ip_lt _) (by decide) | exact mo_or_lt (by decide) (mo_and_lt (mo_rd_lt _ _)) | exact mo_or_lt (mo_shl_lt _ _) (mo_and_lt (mo_rd_lt _ _)))) (sy_oks_cons (sy_ok0 (by first | decide | assumption | omega | exact mo_rd_lt _ _ | exact mo_add_lt _ _ | exact mo_sub_lt _ _ | exact mo_mul_lt _ _ | exact mo_shl_lt _ _ | exact mo_ushr_lt _ _ | exact Nat.lt_trans (ip_lt _) (by decide) | exact mo_or_lt (by decide) (mo_and_lt (mo_rd_lt _ _)) | exact mo_or_lt (mo_shl_lt _ _) (mo_and_lt (mo_rd_lt _ _)))) (sy_oks_cons (sy_ok2 (wh_lt hw 9 (by first | decide | assumption))) (sy_oks_cons (sy_ok0 (by first | decide | assumption | omega | exact mo_rd_lt _ _ | exact mo_add_lt _ _ | exact mo_sub_lt _ _ | exact mo_mul_lt _ _ | exact mo_shl_lt _ _ | exact mo_ushr_lt _ _ | exact Nat.lt_trans (ip_lt _) (by decide) | exact mo_or_lt (by decide) (mo_and_lt (mo_rd_lt _ _)) | exact mo_or_lt (mo_shl_lt _ _) (mo_and_lt (mo_rd_lt _ _)))) sy_oks_nil)))))) rfl xl100) hC (by omega) (by rw [xl100]; omega) sy_refl) ?_
  replace hw := hw1
  replace hX0 := hX1x
  simp only [List.set_cons_zero, List.set_cons_succ] at hw hX0
  refine sy_Fs (sy_aldn xc126_602 rfl rfl sy_refl) ?_
  refine sy_Fs (sy_gf xc126_603 xf126_385 rfl (wh_at hw 0 rfl) rfl (fh_at hX0 11 rfl rfl) sy_refl) ?_
  refine sy_Fs (sy_bipush (v := 32) xc126_606 (by decide) (by decide) sy_refl) ?_
  refine sy_Fs (sy_ild xc126_608 rfl rfl sy_refl) ?_
  refine sy_Fs (sx_imul (z := 32) xc126_610 (by decide)) ?_
  refine sy_Fs (sy_aldn xc126_611 rfl rfl sy_refl) ?_
  refine sy_Fs (sy_gf xc126_612 xf126_397 rfl (wh_at hw 0 rfl) rfl (fh_at hX0 15 rfl rfl) sy_refl) ?_
  refine sy_Fs (sy_ild xc126_615 rfl rfl sy_refl) ?_
  refine sy_Fs (sx_ial (z := 2) xc126_617 (wh_at hw 13 rfl) (by decide) (by decide) hbo) ?_
  refine sy_Fs (sy_callG (kd := 1) (as := [(2, pl 9, 0), (0, 32, 0), (0, 2, 0)]) (S0 := []) (ret := [(0, (ip_n (mv_rd 32 T1 32)), 0)]) xc126_618 (sy_calS (as := [(2, pl 9, 0), (0, 32, 0), (0, 2, 0)]) (S0 := []) xm126_658 rfl rfl) rfl rfl rfl rfl (sy_oka (sy_oks_cons (sy_ok2 (wh_lt hw 9 (by first | decide | assumption))) (sy_oks_cons (sy_ok0 (by first | decide | assumption | omega | exact mo_rd_lt _ _ | exact mo_add_lt _ _ | exact mo_sub_lt _ _ | exact mo_mul_lt _ _ | exact mo_shl_lt _ _ | exact mo_ushr_lt _ _ | exact Nat.lt_trans (ip_lt _) (by decide) | exact mo_or_lt (by decide) (mo_and_lt (mo_rd_lt _ _)) | exact mo_or_lt (mo_shl_lt _ _) (mo_and_lt (mo_rd_lt _ _)))) (sy_oks_cons (sy_ok0 (by first | decide | assumption | omega | exact mo_rd_lt _ _ | exact mo_add_lt _ _ | exact mo_sub_lt _ _ | exact mo_mul_lt _ _ | exact mo_shl_lt _ _ | exact mo_ushr_lt _ _ | exact Nat.lt_trans (ip_lt _) (by decide) | exact mo_or_lt (by decide) (mo_and_lt (mo_rd_lt _ _)) | exact mo_or_lt (mo_shl_lt _ _) (mo_and_lt (mo_rd_lt _ _)))) sy_oks_nil))) rfl xl132) (sy_Cw (wq_ip (n := n) hw hX0)) (by omega) (by rw [xl132]; omega) sy_refl) ?_
  refine sy_Fs (sx_ist (j := 8) (ls' := [(2, pl 0, 0), (0, 0, 0), (0, sec, 0), (2, pl 31, 0), (0, 0, 0), (0, 1, 0), (0, 0, 0), (0, 105, 0), (0, (ip_n (mv_rd 32 T1 32)), 0)]) xc126_621 rfl (sy_ok0 (by first | decide | assumption | omega | exact mo_rd_lt _ _ | exact mo_add_lt _ _ | exact mo_sub_lt _ _ | exact mo_mul_lt _ _ | exact mo_shl_lt _ _ | exact mo_ushr_lt _ _ | exact Nat.lt_trans (ip_lt _) (by decide) | exact mo_or_lt (by decide) (mo_and_lt (mo_rd_lt _ _)) | exact mo_or_lt (mo_shl_lt _ _) (mo_and_lt (mo_rd_lt _ _)))) (by rw [xl126]; rfl) rfl rfl) ?_
  refine sy_Fs (sy_goto (pc' := 546) xc126_623 (by decide) (by decide) sy_refl) ?_
  exact K _ _ _ _ _ _ _ _ _ _ (fun j hj => by rw [hT1 (32 + j), if_pos (by omega), show 32 + j - 32 = j by omega]) hw hX0
end IP
