/-! PurseHouse$Sha: endTwice, hashOf, symbolically -/
theorem shf17_inner : tt_fl 17 22 = (1, 2, 3) := by decide +kernel
theorem mci15 : tt_mci 15 = 2 := by decide +kernel
theorem mci14 : tt_mci 14 = 2 := by decide +kernel
theorem mci18 : tt_mci 18 = 2 := by decide +kernel
theorem mci17 : tt_mci 17 = 2 := by decide +kernel
theorem cd17_0 : tt_cd 17 0 = (1, .aload_n 0, 1) := by decide +kernel
theorem cd17_1 : tt_cd 17 1 = (1, .aload_n 0, 1) := by decide +kernel
theorem cd17_2 : tt_cd 17 2 = (3, .getfield 22, 3) := by decide +kernel
theorem cd17_5 : tt_cd 17 5 = (2, .iconst 0, 1) := by decide +kernel
theorem cd17_6 : tt_cd 17 6 = (10, .invokevirtual 73, 3) := by decide +kernel
theorem cd17_9 : tt_cd 17 9 = (1, .aload_n 0, 1) := by decide +kernel
theorem cd17_10 : tt_cd 17 10 = (10, .invokevirtual 77, 3) := by decide +kernel
theorem cd17_13 : tt_cd 17 13 = (1, .aload_n 0, 1) := by decide +kernel
theorem cd17_14 : tt_cd 17 14 = (1, .aload_n 0, 1) := by decide +kernel
theorem cd17_15 : tt_cd 17 15 = (3, .getfield 22, 3) := by decide +kernel
theorem cd17_18 : tt_cd 17 18 = (2, .iconst 0, 1) := by decide +kernel
theorem cd17_19 : tt_cd 17 19 = (4, .bipush 32, 2) := by decide +kernel
theorem cd17_21 : tt_cd 17 21 = (10, .invokevirtual 80, 3) := by decide +kernel
theorem cd17_24 : tt_cd 17 24 = (1, .aload_n 0, 1) := by decide +kernel
theorem cd17_25 : tt_cd 17 25 = (1, .aload_n 1, 1) := by decide +kernel
theorem cd17_26 : tt_cd 17 26 = (1, .iload_n 2, 1) := by decide +kernel
theorem cd17_27 : tt_cd 17 27 = (10, .invokevirtual 73, 3) := by decide +kernel
theorem cd17_30 : tt_cd 17 30 = (9, .return_, 1) := by decide +kernel
theorem mL17 : tt_mL 17 = 3 := by decide +kernel
theorem ml17_73 : tt_ml 17 73 = (3, 18, 2) := by decide +kernel
theorem ml17_77 : tt_ml 17 77 = (3, 14, 0) := by decide +kernel
theorem ml17_80 : tt_ml 17 80 = (3, 15, 3) := by decide +kernel
theorem mr17 : tt_mr 17 = 0 := by decide +kernel
theorem cd13_0 : tt_cd 13 0 = (1, .aload_n 0, 1) := by decide +kernel
theorem cd13_1 : tt_cd 13 1 = (10, .invokevirtual 77, 3) := by decide +kernel
theorem cd13_4 : tt_cd 13 4 = (1, .aload_n 0, 1) := by decide +kernel
theorem cd13_5 : tt_cd 13 5 = (1, .aload_n 1, 1) := by decide +kernel
theorem cd13_6 : tt_cd 13 6 = (1, .iload_n 2, 1) := by decide +kernel
theorem cd13_7 : tt_cd 13 7 = (1, .iload_n 3, 1) := by decide +kernel
theorem cd13_8 : tt_cd 13 8 = (10, .invokevirtual 80, 3) := by decide +kernel
theorem cd13_11 : tt_cd 13 11 = (1, .aload_n 0, 1) := by decide +kernel
theorem cd13_12 : tt_cd 13 12 = (1, .aload 4, 2) := by decide +kernel
theorem cd13_14 : tt_cd 13 14 = (2, .iconst 0, 1) := by decide +kernel
theorem cd13_15 : tt_cd 13 15 = (10, .invokevirtual 87, 3) := by decide +kernel
theorem cd13_18 : tt_cd 13 18 = (9, .return_, 1) := by decide +kernel
theorem mL13 : tt_mL 13 = 5 := by decide +kernel
theorem ml13_77 : tt_ml 13 77 = (3, 14, 0) := by decide +kernel
theorem ml13_80 : tt_ml 13 80 = (3, 15, 3) := by decide +kernel
theorem ml13_87 : tt_ml 13 87 = (3, 17, 2) := by decide +kernel
theorem mr13 : tt_mr 13 = 0 := by decide +kernel
section SH
variable {w : mv_T 10} {p0 pp pw ps pi pt q I T at_ X n : Nat} {s : sh_T}
theorem sh_b_u : (sh_b s).1 < 64 := by show 0 < 64; decide
theorem sh_b_l : (sh_b s).2.1 < 4294967296 := by show 0 < 4294967296; decide
theorem sh_e_u : (sh_e s).1 = 0 := rfl
theorem sh_e_l : (sh_e s).2.1 = s.2.1 := by
  unfold sh_e sh_e3 sh_cm
  dsimp only
  unfold sh_e2
  cases Nat.ble (sh_e1 s).1 56 <;> rfl
/-- the end twice: what stands in the inner row; the state behind it -/
def sh_i (s : sh_T) (I : Nat) : Nat := sh_o I 0 (sh_e s).2.2.2.2 8
def sh_t (s : sh_T) (I : Nat) : sh_T := sh_e (sh_p (sh_i s I) 0 32 (sh_b (sh_e s)))
theorem sh_p_ok {C a m : Nat} (h : s.1 < 64) : (sh_p C a m s).1 < 64 := sh_n_ok h m
theorem sh_p_l {C a m : Nat} : (sh_p C a m s).2.1 < 4294967296 := mo_add_lt _ _
theorem sh_twice (hs : s.1 < 64) (hl : s.2.1 < 4294967296) (D : sh_D p0 pp pw ps) (F : mc_F X pp pw ps) (Fi : mv_dec (mv_rd 136 X 3) = (2, pi, 0)) (Oi : sh_O p0 pp pw ps pi) (O : sh_O p0 pp pw ps pt) (hit : pi ≠ pt) (hI : mv_get 10 w pi = (1, 1, 32, I)) (hT : mv_get 10 w pt = (1, 1, q, T)) (hq : q ≤ 2147483647) (ha : at_ + 32 ≤ q) : sy_C 17 n 3 69 [(2, p0, 0), (2, pt, 0), (0, at_, 0)] (sh_W w p0 pp pw ps X s) [] (sh_W (mv_set 10 (mv_set 10 w pi (1, 1, 32, sh_i s I)) pt (1, 1, q, sh_o T at_ (sh_t s I).2.2.2.2 8)) p0 pp pw ps X (sh_t s I)) := by
  refine sy_Cof (us := []) (ls' := [(2, p0, 0), (2, pt, 0), (0, at_, 0)]) (pe := 30) (sy_oks_cons (sy_ok2 D.1) (sy_oks_cons (sy_ok2 O.1) (sy_oks_cons (sy_ok0 (by omega)) sy_oks_nil))) rfl rfl ?_ (fun L f => sy_ret cd17_30 mr17)
  show sy_R 17 n 3 69 0 [(2, p0, 0), (2, pt, 0), (0, at_, 0)] [] (sh_W w p0 pp pw ps X s) 30 [(2, p0, 0), (2, pt, 0), (0, at_, 0)] [] (sh_W (mv_set 10 (mv_set 10 w pi (1, 1, 32, sh_i s I)) pt (1, 1, q, sh_o T at_ (sh_t s I).2.2.2.2 8)) p0 pp pw ps X (sh_t s I))
  unfold sh_t sh_i
  refine sy_aldn cd17_0 rfl rfl ?_
  refine sy_aldn cd17_1 rfl rfl ?_
  refine sy_gf cd17_2 shf17_inner rfl (sh_g0 D) rfl ((congrArg mv_dec (sh_xo (by decide) (by decide))).trans Fi) ?_
  refine sy_iconst (v := 0) cd17_5 (by decide) ?_
  refine sy_callG (kd := 3) (as := [(2, p0, 0), (2, pi, 0), (0, 0, 0)]) (S0 := []) (ret := []) cd17_6 (sy_calV (as := [(2, p0, 0), (2, pi, 0), (0, 0, 0)]) (S0 := []) ml17_73 rfl rfl) rfl rfl (sy_rcvm mci18 (sh_g0 D)) rfl (sy_oka (sy_oks_cons (sy_ok2 D.1) (sy_oks_cons (sy_ok2 Oi.1) (sy_oks_cons (sy_ok0 (by decide)) sy_oks_nil))) rfl mL18) (sh_end hs hl (by decide) (by decide) D F Oi hI) (by decide) (by rw [mL18]; decide) ?_
  simp only [List.nil_append, List.cons_append]
  refine sy_aldn cd17_9 rfl rfl ?_
  refine sy_callG (kd := 3) (as := [(2, p0, 0)]) (S0 := []) (ret := []) cd17_10 (sy_calV (as := [(2, p0, 0)]) (S0 := []) ml17_77 rfl rfl) rfl rfl (sy_rcvm mci14 (sh_g0 D)) rfl (sy_oka (sy_oks_cons (sy_ok2 D.1) sy_oks_nil) rfl mL14) (sh_begin D F) (by decide) (by rw [mL14]; decide) ?_
  simp only [List.nil_append, List.cons_append]
  refine sy_aldn cd17_13 rfl rfl ?_
  refine sy_aldn cd17_14 rfl rfl ?_
  refine sy_gf cd17_15 shf17_inner rfl (sh_g0 D) rfl ((congrArg mv_dec (sh_xo (by decide) (by decide))).trans Fi) ?_
  refine sy_iconst (v := 0) cd17_18 (by decide) ?_
  refine sy_bipush (v := 32) cd17_19 (by decide) (by decide) ?_
  refine sy_callG (kd := 3) (as := [(2, p0, 0), (2, pi, 0), (0, 0, 0), (0, 32, 0)]) (S0 := []) (ret := []) cd17_21 (sy_calV (as := [(2, p0, 0), (2, pi, 0), (0, 0, 0), (0, 32, 0)]) (S0 := []) ml17_80 rfl rfl) rfl rfl (sy_rcvm mci15 (sh_g0 D)) rfl (sy_oka (sy_oks_cons (sy_ok2 D.1) (sy_oks_cons (sy_ok2 Oi.1) (sy_oks_cons (sy_ok0 (by decide)) (sy_oks_cons (sy_ok0 (by decide)) sy_oks_nil)))) rfl mL15) (sh_put sh_b_u sh_b_l D F Oi (mv_gs Oi.1) (by decide) (by decide)) (by decide) (by rw [mL15]; decide) ?_
  simp only [List.nil_append, List.cons_append]
  refine sy_aldn cd17_24 rfl rfl ?_
  refine sy_aldn cd17_25 rfl rfl ?_
  refine sy_ildn cd17_26 rfl rfl ?_
  refine sy_callG (kd := 3) (as := [(2, p0, 0), (2, pt, 0), (0, at_, 0)]) (S0 := []) (ret := []) cd17_27 (sy_calV (as := [(2, p0, 0), (2, pt, 0), (0, at_, 0)]) (S0 := []) ml17_73 rfl rfl) rfl rfl (sy_rcvm mci18 (sh_g0 D)) rfl (sy_oka (sy_oks_cons (sy_ok2 D.1) (sy_oks_cons (sy_ok2 O.1) (sy_oks_cons (sy_ok0 (by omega)) sy_oks_nil))) rfl mL18) (sh_end (sh_p_ok sh_b_u) sh_p_l hq ha D F O ((mv_gn Oi.1 O.1 (Ne.symm hit)).trans hT)) (by decide) (by rw [mL18]; decide) ?_
  simp only [List.nil_append, List.cons_append]
  exact sy_refl
def sh_h (C fa nn : Nat) (s : sh_T) : sh_T := sh_p C fa nn (sh_b s)
theorem sh_hash {pf qf C fa nn : Nat} (D : sh_D p0 pp pw ps) (F : mc_F X pp pw ps) (Fi : mv_dec (mv_rd 136 X 3) = (2, pi, 0)) (Oi : sh_O p0 pp pw ps pi) (O : sh_O p0 pp pw ps pt) (hit : pi ≠ pt) (hI : mv_get 10 w pi = (1, 1, 32, I)) (hT : mv_get 10 w pt = (1, 1, q, T)) (hq : q ≤ 2147483647) (ha : 0 + 32 ≤ q) (Of : sh_O p0 pp pw ps pf) (hC : mv_get 10 w pf = (1, 1, qf, C)) (hqf : qf ≤ 2147483647) (hn : fa + nn ≤ qf) : sy_C 13 n 4 91 [(2, p0, 0), (2, pf, 0), (0, fa, 0), (0, nn, 0), (2, pt, 0)] (sh_W w p0 pp pw ps X s) [] (sh_W (mv_set 10 (mv_set 10 w pi (1, 1, 32, sh_i (sh_h C fa nn s) I)) pt (1, 1, q, sh_o T 0 (sh_t (sh_h C fa nn s) I).2.2.2.2 8)) p0 pp pw ps X (sh_t (sh_h C fa nn s) I)) := by
  refine sy_Cof (us := []) (ls' := [(2, p0, 0), (2, pf, 0), (0, fa, 0), (0, nn, 0), (2, pt, 0)]) (pe := 18) (sy_oks_cons (sy_ok2 D.1) (sy_oks_cons (sy_ok2 Of.1) (sy_oks_cons (sy_ok0 (by omega)) (sy_oks_cons (sy_ok0 (by omega)) (sy_oks_cons (sy_ok2 O.1) sy_oks_nil))))) rfl rfl ?_ (fun L f => sy_ret cd13_18 mr13)
  show sy_R 13 n 4 91 0 [(2, p0, 0), (2, pf, 0), (0, fa, 0), (0, nn, 0), (2, pt, 0)] [] (sh_W w p0 pp pw ps X s) 18 [(2, p0, 0), (2, pf, 0), (0, fa, 0), (0, nn, 0), (2, pt, 0)] [] (sh_W (mv_set 10 (mv_set 10 w pi (1, 1, 32, sh_i (sh_h C fa nn s) I)) pt (1, 1, q, sh_o T 0 (sh_t (sh_h C fa nn s) I).2.2.2.2 8)) p0 pp pw ps X (sh_t (sh_h C fa nn s) I))
  unfold sh_h
  refine sy_aldn cd13_0 rfl rfl ?_
  refine sy_callG (kd := 3) (as := [(2, p0, 0)]) (S0 := []) (ret := []) cd13_1 (sy_calV (as := [(2, p0, 0)]) (S0 := []) ml13_77 rfl rfl) rfl rfl (sy_rcvm mci14 (sh_g0 D)) rfl (sy_oka (sy_oks_cons (sy_ok2 D.1) sy_oks_nil) rfl mL14) (sh_begin D F) (by decide) (by rw [mL14]; decide) ?_
  simp only [List.nil_append, List.cons_append]
  refine sy_aldn cd13_4 rfl rfl ?_
  refine sy_aldn cd13_5 rfl rfl ?_
  refine sy_ildn cd13_6 rfl rfl ?_
  refine sy_ildn cd13_7 rfl rfl ?_
  refine sy_callG (kd := 3) (as := [(2, p0, 0), (2, pf, 0), (0, fa, 0), (0, nn, 0)]) (S0 := []) (ret := []) cd13_8 (sy_calV (as := [(2, p0, 0), (2, pf, 0), (0, fa, 0), (0, nn, 0)]) (S0 := []) ml13_80 rfl rfl) rfl rfl (sy_rcvm mci15 (sh_g0 D)) rfl (sy_oka (sy_oks_cons (sy_ok2 D.1) (sy_oks_cons (sy_ok2 Of.1) (sy_oks_cons (sy_ok0 (by omega)) (sy_oks_cons (sy_ok0 (by omega)) sy_oks_nil)))) rfl mL15) (sh_put sh_b_u sh_b_l D F Of hC hqf hn) (by decide) (by rw [mL15]; decide) ?_
  simp only [List.nil_append, List.cons_append]
  refine sy_aldn cd13_11 rfl rfl ?_
  refine sy_ald cd13_12 rfl rfl ?_
  refine sy_iconst (v := 0) cd13_14 (by decide) ?_
  refine sy_callG (kd := 3) (as := [(2, p0, 0), (2, pt, 0), (0, 0, 0)]) (S0 := []) (ret := []) cd13_15 (sy_calV (as := [(2, p0, 0), (2, pt, 0), (0, 0, 0)]) (S0 := []) ml13_87 rfl rfl) rfl rfl (sy_rcvm mci17 (sh_g0 D)) rfl (sy_oka (sy_oks_cons (sy_ok2 D.1) (sy_oks_cons (sy_ok2 O.1) (sy_oks_cons (sy_ok0 (by decide)) sy_oks_nil))) rfl mL17) (sh_twice (sh_p_ok sh_b_u) sh_p_l D F Fi Oi O hit hI hT hq ha) (by decide) (by rw [mL17]; decide) ?_
  simp only [List.nil_append, List.cons_append]
  exact sy_refl
end SH
