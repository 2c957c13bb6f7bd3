/-! THE REFERENCE, I -/
theorem xc98_0 : tt_cd 98 0 = (1, .lload_n 0, 1) := by decide +kernel
theorem xc98_1 : tt_cd 98 1 = (1, .lload_n 2, 1) := by decide +kernel
theorem xc98_2 : tt_cd 98 2 = (2, .lcmp, 1) := by decide +kernel
theorem xc98_3 : tt_cd 98 3 = (5, .ifCond .lt 14, 3) := by decide +kernel
theorem xc98_6 : tt_cd 98 6 = (1, .lload_n 0, 1) := by decide +kernel
theorem xc98_7 : tt_cd 98 7 = (1, .lload 4, 2) := by decide +kernel
theorem xc98_9 : tt_cd 98 9 = (2, .lcmp, 1) := by decide +kernel
theorem xc98_10 : tt_cd 98 10 = (5, .ifCond .gt 7, 3) := by decide +kernel
theorem xc98_13 : tt_cd 98 13 = (2, .iconst 1, 1) := by decide +kernel
theorem xc98_14 : tt_cd 98 14 = (5, .goto 4, 3) := by decide +kernel
theorem xc98_18 : tt_cd 98 18 = (9, .ireturn, 1) := by decide +kernel
theorem xr98 : tt_mr 98 = 4 := by decide +kernel
theorem xc98_17 : tt_cd 98 17 = (2, .iconst 0, 1) := by decide +kernel
theorem xl110 : tt_mL 110 = 6 := by decide +kernel
theorem xr110 : tt_mr 110 = 0 := by decide +kernel
theorem xc110_3 : tt_cd 110 3 = (1, .iload 5, 2) := by decide +kernel
theorem xc110_5 : tt_cd 110 5 = (1, .iload 4, 2) := by decide +kernel
theorem xc110_7 : tt_cd 110 7 = (5, .if_icmp .ge 21, 3) := by decide +kernel
theorem xc110_10 : tt_cd 110 10 = (1, .aload_n 2, 1) := by decide +kernel
theorem xc110_11 : tt_cd 110 11 = (1, .iload_n 3, 1) := by decide +kernel
theorem xc110_12 : tt_cd 110 12 = (1, .iload 5, 2) := by decide +kernel
theorem xc110_14 : tt_cd 110 14 = (2, .iadd, 1) := by decide +kernel
theorem xc110_15 : tt_cd 110 15 = (1, .aload_n 0, 1) := by decide +kernel
theorem xc110_16 : tt_cd 110 16 = (1, .iload_n 1, 1) := by decide +kernel
theorem xc110_17 : tt_cd 110 17 = (1, .iload 5, 2) := by decide +kernel
theorem xc110_19 : tt_cd 110 19 = (2, .iadd, 1) := by decide +kernel
theorem xc110_20 : tt_cd 110 20 = (3, .baload, 1) := by decide +kernel
theorem xc110_21 : tt_cd 110 21 = (6, .bastore, 1) := by decide +kernel
theorem xc110_22 : tt_cd 110 22 = (1, .iinc 5 1, 3) := by decide +kernel
theorem xc110_25 : tt_cd 110 25 = (5, .goto (-22), 3) := by decide +kernel
theorem xc110_28 : tt_cd 110 28 = (9, .return_, 1) := by decide +kernel
theorem xc110_0 : tt_cd 110 0 = (2, .iconst 0, 1) := by decide +kernel
theorem xc110_1 : tt_cd 110 1 = (1, .istore 5, 2) := by decide +kernel
/-! THE REFERENCE over known cells -/
def jR : List Nat := [0, 12, 7, 10, 11, 9, 8, 15, 13, 14, 37, 70, 71, 63, 38, 62, 45, 72, 18, 46, 36, 67, 68, 30, 73, 58, 66, 64, 65, 85, 76, 49, 69, 74, 82, 87, 88, 86, 19]
section RH
variable {n : Nat} {pl : Nat → Nat} {w0 w : mv_T 10}
theorem wr_hash {cs : List mv_C} {vs : List mv_V} {X P Wd V St A Mi T C u l q qf at_ fa nn it jf : Nat} {f : Nat → Nat} (hw : wh 29 pl w0 w cs) (c0 : cs[0]? = some (0, 0, 107, X)) (c1 : cs[1]? = some (1, 1, 64, P)) (c2 : cs[2]? = some (1, 0, 64, mc_K)) (c3 : cs[3]? = some (1, 0, 64, Wd)) (c4 : cs[4]? = some (1, 0, 8, V)) (c5 : cs[5]? = some (1, 0, 8, St)) (c6 : cs[6]? = some (1, 0, 8, A)) (c7 : cs[7]? = some (1, 1, 32, Mi)) (ct : cs[it]? = some (1, 1, q, T)) (hit : 7 < it) (hit2 : it < 29) (cf : cs[jf]? = some (1, 1, qf, C)) (hjf : 7 < jf) (hjf2 : jf < 29) (hX : fh X jR vs) (v1 : vs[1]? = some (2, pl 1, 0)) (v2 : vs[2]? = some (2, pl 2, 0)) (v3 : vs[3]? = some (2, pl 3, 0)) (v4 : vs[4]? = some (2, pl 4, 0)) (v5 : vs[5]? = some (2, pl 5, 0)) (v6 : vs[6]? = some (2, pl 6, 0)) (v7 : vs[7]? = some (2, pl 7, 0)) (v8 : vs[8]? = some (0, u, 0)) (v9 : vs[9]? = some (1, l, 0)) (hq : q ≤ 2147483647) (ha : at_ + 32 ≤ q) (hqf : qf ≤ 2147483647) (hn : fa + nn ≤ qf) (hA : ∀ i, i < 8 → mv_rd 32 A i = mv_rd 32 hs_S0 i) (hf : ∀ j, j < nn → mv_rd 32 C (fa + j) = f j) (hnn : nn < 1048576) :
    ∃ (w' : mv_T 10) (X' P' W' V' S' M' T' u' l' : Nat), sy_C 100 n 4 97 [(2, pl 0, 0), (2, pl jf, 0), (0, fa, 0), (0, nn, 0), (2, pl it, 0), (0, at_, 0)] w [] w' ∧ wh 29 pl w0 w' (((((((cs.set 7 (1, 1, 32, M')).set it (1, 1, q, T')).set 1 (1, 1, 64, P')).set 0 (0, 0, 107, X')).set 3 (1, 0, 64, W')).set 4 (1, 0, 8, V')).set 5 (1, 0, 8, S')) ∧ fh X' jR ((vs.set 8 (0, u', 0)).set 9 (1, l', 0)) ∧ (u' < 64 ∧ l' < 18446744073709551616) ∧ ∀ j, mv_rd 32 T' j = if at_ ≤ j ∧ j < at_ + 32 then bk_D (hs_2 f nn) (j - at_) else mv_rd 32 T j := by
  have L : ∀ i, i < 29 → pl i < 1024 := fun i hi => wh_lt hw i hi
  have E : ∀ i j, i < 29 → j < 29 → i ≠ j → pl i ≠ pl j := fun i j hi hj e => wh_ne hw i j hi hj e
  have D : rs_D w (pl 0) (pl 1) (pl 2) (pl 3) (pl 4) (pl 5) X mc_K := ⟨⟨L 0 (by decide), L 1 (by decide), L 2 (by decide), L 3 (by decide), L 4 (by decide), L 5 (by decide)⟩, ⟨E 3 4 (by decide) (by decide) (by decide), E 3 5 (by decide) (by decide) (by decide), E 4 5 (by decide) (by decide) (by decide)⟩, ⟨E 0 3 (by decide) (by decide) (by decide), E 0 4 (by decide) (by decide) (by decide), E 0 5 (by decide) (by decide) (by decide)⟩, ⟨E 1 3 (by decide) (by decide) (by decide), E 1 4 (by decide) (by decide) (by decide), E 1 5 (by decide) (by decide) (by decide)⟩, ⟨E 2 3 (by decide) (by decide) (by decide), E 2 4 (by decide) (by decide) (by decide), E 2 5 (by decide) (by decide) (by decide)⟩, ⟨E 0 1 (by decide) (by decide) (by decide), E 2 1 (by decide) (by decide) (by decide), E 2 0 (by decide) (by decide) (by decide)⟩, wh_at hw 2 c2, fh_at hX 3 rfl v3, fh_at hX 1 rfl v1, fh_at hX 4 rfl v4, fh_at hX 5 rfl v5, fh_at hX 2 rfl v2⟩
  have O : ∀ i, 5 < i → i < 29 → rs_O (pl 0) (pl 1) (pl 3) (pl 4) (pl 5) (pl i) := fun i h5 hi => ⟨L i hi, E i 0 hi (by decide) (by omega), E i 1 hi (by decide) (by omega), E i 3 hi (by decide) (by omega), E i 4 hi (by decide) (by omega), E i 5 hi (by decide) (by omega)⟩
  have x1 : rs_x X u l = X := by
    unfold rs_x
    have r1 := mv_enc_dec (by decide) (fh_at hX 8 (j := 13) rfl v8)
    have r2 := mv_enc_dec (by decide) (fh_at hX 9 (j := 14) rfl v9)
    have q1 : mv_wr 136 X 13 (mv_enc (0, u, 0)) = X := by
      refine mv_wr_rd ?_
      rw [← r1]
      exact (Nat.mod_eq_of_lt (mv_rd_lt 136 X _)).symm
    rw [q1]
    refine mv_wr_rd ?_
    rw [← r2]
    exact (Nat.mod_eq_of_lt (mv_rd_lt 136 X _)).symm
  have eW : rs_W w (pl 0) (pl 1) (pl 3) (pl 4) (pl 5) X (u, l, P, Wd, V, St) = w := by
    show rs_w w (pl 0) (pl 1) (pl 3) (pl 4) (pl 5) (rs_x X u l) P Wd V St = w
    rw [x1]
    unfold rs_w
    rw [mv_sg (L 1 (by decide)) (wh_at hw 1 c1), mv_sg (L 0 (by decide)) (wh_at hw 0 c0)]
    unfold mr_w
    rw [mv_sg (L 3 (by decide)) (wh_at hw 3 c3), mv_sg (L 4 (by decide)) (wh_at hw 4 c4), mv_sg (L 5 (by decide)) (wh_at hw 5 c5)]
  have h := rs_hash (n := n) (s := (u, l, P, Wd, V, St)) D (O 6 (by decide) (by decide)) (wh_at hw 6 c6) (fh_at hX 6 rfl v6) (O 7 (by decide) (by decide)) (E 2 7 (by decide) (by decide) (by decide)) (E 6 7 (by decide) (by decide) (by decide)) (wh_at hw 7 c7) (fh_at hX 7 rfl v7) (O it (by omega) hit2) (E 2 it (by decide) hit2 (by omega)) (E 7 it (by decide) hit2 (by omega)) (wh_at hw it ct) hq ha (O jf (by omega) hjf2) (wh_at hw jf cf) hqf hn
  rw [eW] at h
  have ok : (rs_h mc_K A C fa nn Mi (u, l, P, Wd, V, St)).1 < 64 ∧ (rs_h mc_K A C fa nn Mi (u, l, P, Wd, V, St)).2.1 < 18446744073709551616 := by
    unfold rs_h
    exact rs_e_ok (rs_n_ok rs_b_u 32)
  have hT : ∀ j, mv_rd 32 (rs_o T at_ (rs_h mc_K A C fa nn Mi (u, l, P, Wd, V, St)).2.2.2.2.2 32) j = if at_ ≤ j ∧ j < at_ + 32 then bk_D (hs_2 f nn) (j - at_) else mv_rd 32 T j := fun j => hs_ref hA hf hnn j
  generalize rs_h mc_K A C fa nn Mi (u, l, P, Wd, V, St) = R at h ok hT
  generalize rs_hm mc_K A C fa nn Mi (u, l, P, Wd, V, St) = HM at h
  generalize rs_o T at_ R.2.2.2.2.2 32 = TT at h hT
  refine ⟨_, rs_x X R.1 R.2.1, R.2.2.1, R.2.2.2.1, R.2.2.2.2.1, R.2.2.2.2.2, HM, TT, R.1, R.2.1, h, ?_, ?_, ok, hT⟩
  · unfold rs_W rs_w mr_w
    exact wh_set (wh_set (wh_set (wh_set (wh_set (wh_set (wh_set hw 7 (by decide) _) it hit2 _) 1 (by decide) _) 0 (by decide) _) 3 (by decide) _) 4 (by decide) _) 5 (by decide) _
  · unfold rs_x
    exact fh_set (fh_set hX (by decide) 8 rfl (sy_ok0 (by have := ok.1; omega))) (by decide) 9 rfl (sy_ok1 ok.2)
theorem wr_in {x b h : Nat} (hb : b ≤ x) (hx : x ≤ h) (hh : h < 2147483648) : sy_C 98 n 0 0 [(1, x, 0), (1, b, 0), (1, h, 0)] w [(0, 1, 0)] w := by
  have key : sy_F 98 n 0 0 0 [(1, x, 0), (255, 0, 0), (1, b, 0), (255, 0, 0), (1, h, 0), (255, 0, 0)] [] w (fun ret w' => ret = [(0, 1, 0)] ∧ w' = w) := by
    rcases (show x = b ∨ b < x by omega) with e1 | e1 <;> rcases Nat.eq_or_lt_of_le hx with e2 | e2
    ·
      refine sy_Fs (sy_lldn (j := 0) xc98_0 rfl rfl rfl sy_refl) ?_
      refine sy_Fs (sy_lldn (j := 2) xc98_1 rfl rfl rfl sy_refl) ?_
      refine sy_Fs (sx_lcmp_e xc98_2 (by omega) e1) ?_
      refine sy_Fs (sy_iflt_f xc98_3 (by decide) (by decide) sy_refl) ?_
      refine sy_Fs (sy_lldn (j := 0) xc98_6 rfl rfl rfl sy_refl) ?_
      refine sy_Fs (sx_lld xc98_7 rfl rfl) ?_
      refine sy_Fs (sx_lcmp_e xc98_9 (by omega) e2) ?_
      refine sy_Fs (sx_ifgt_f xc98_10 (by decide) (by decide) (by decide)) ?_
      refine sy_Fs (sy_iconst (v := 1) xc98_13 (by decide) sy_refl) ?_
      refine sy_Fs (sy_goto (pc' := 18) xc98_14 (by decide) (by decide) sy_refl) ?_
      exact sy_Fz xc98_18 xr98 (by decide) ⟨rfl, rfl⟩
    ·
      refine sy_Fs (sy_lldn (j := 0) xc98_0 rfl rfl rfl sy_refl) ?_
      refine sy_Fs (sy_lldn (j := 2) xc98_1 rfl rfl rfl sy_refl) ?_
      refine sy_Fs (sx_lcmp_e xc98_2 (by omega) e1) ?_
      refine sy_Fs (sy_iflt_f xc98_3 (by decide) (by decide) sy_refl) ?_
      refine sy_Fs (sy_lldn (j := 0) xc98_6 rfl rfl rfl sy_refl) ?_
      refine sy_Fs (sx_lld xc98_7 rfl rfl) ?_
      refine sy_Fs (sx_lcmp_l xc98_9 (by omega) e2) ?_
      refine sy_Fs (sx_ifgt_f xc98_10 (by decide) (by decide) (by decide)) ?_
      refine sy_Fs (sy_iconst (v := 1) xc98_13 (by decide) sy_refl) ?_
      refine sy_Fs (sy_goto (pc' := 18) xc98_14 (by decide) (by decide) sy_refl) ?_
      exact sy_Fz xc98_18 xr98 (by decide) ⟨rfl, rfl⟩
    ·
      refine sy_Fs (sy_lldn (j := 0) xc98_0 rfl rfl rfl sy_refl) ?_
      refine sy_Fs (sy_lldn (j := 2) xc98_1 rfl rfl rfl sy_refl) ?_
      refine sy_Fs (sx_lcmp_g xc98_2 (by omega) e1) ?_
      refine sy_Fs (sy_iflt_f xc98_3 (by decide) (by decide) sy_refl) ?_
      refine sy_Fs (sy_lldn (j := 0) xc98_6 rfl rfl rfl sy_refl) ?_
      refine sy_Fs (sx_lld xc98_7 rfl rfl) ?_
      refine sy_Fs (sx_lcmp_e xc98_9 (by omega) e2) ?_
      refine sy_Fs (sx_ifgt_f xc98_10 (by decide) (by decide) (by decide)) ?_
      refine sy_Fs (sy_iconst (v := 1) xc98_13 (by decide) sy_refl) ?_
      refine sy_Fs (sy_goto (pc' := 18) xc98_14 (by decide) (by decide) sy_refl) ?_
      exact sy_Fz xc98_18 xr98 (by decide) ⟨rfl, rfl⟩
    ·
      refine sy_Fs (sy_lldn (j := 0) xc98_0 rfl rfl rfl sy_refl) ?_
      refine sy_Fs (sy_lldn (j := 2) xc98_1 rfl rfl rfl sy_refl) ?_
      refine sy_Fs (sx_lcmp_g xc98_2 (by omega) e1) ?_
      refine sy_Fs (sy_iflt_f xc98_3 (by decide) (by decide) sy_refl) ?_
      refine sy_Fs (sy_lldn (j := 0) xc98_6 rfl rfl rfl sy_refl) ?_
      refine sy_Fs (sx_lld xc98_7 rfl rfl) ?_
      refine sy_Fs (sx_lcmp_l xc98_9 (by omega) e2) ?_
      refine sy_Fs (sx_ifgt_f xc98_10 (by decide) (by decide) (by decide)) ?_
      refine sy_Fs (sy_iconst (v := 1) xc98_13 (by decide) sy_refl) ?_
      refine sy_Fs (sy_goto (pc' := 18) xc98_14 (by decide) (by decide) sy_refl) ?_
      exact sy_Fz xc98_18 xr98 (by decide) ⟨rfl, rfl⟩
  obtain ⟨f, ret, w', ⟨rfl, rfl⟩, r⟩ := key _ (sx_l3 (by omega) (by omega) (by omega))
  exact ⟨f, r⟩
theorem wr_inF {x b h : Nat} (hx : x < b) (hb : b < 2147483648) (hh : h < 2147483648) : sy_C 98 n 0 0 [(1, x, 0), (1, b, 0), (1, h, 0)] w [(0, 0, 0)] w := by
  have key : sy_F 98 n 0 0 0 [(1, x, 0), (255, 0, 0), (1, b, 0), (255, 0, 0), (1, h, 0), (255, 0, 0)] [] w (fun ret w' => ret = [(0, 0, 0)] ∧ w' = w) := by
    refine sy_Fs (sy_lldn (j := 0) xc98_0 rfl rfl rfl sy_refl) ?_
    refine sy_Fs (sy_lldn (j := 2) xc98_1 rfl rfl rfl sy_refl) ?_
    refine sy_Fs (sx_lcmp_l xc98_2 (by omega) hx) ?_
    refine sy_Fs (sy_iflt_t (pc' := 17) xc98_3 (by decide) (by decide) (by decide) (by decide) sy_refl) ?_
    refine sy_Fs (sy_iconst (v := 0) xc98_17 (by decide) sy_refl) ?_
    exact sy_Fz xc98_18 xr98 (by decide) ⟨rfl, rfl⟩
  obtain ⟨f, ret, w', ⟨rfl, rfl⟩, r⟩ := key _ (sx_l3 (by omega) (by omega) (by omega))
  exact ⟨f, r⟩
def mo_T (T at_ C fa : Nat) : Nat → Nat
  | 0 => T
  | m + 1 => mv_wr 32 (mo_T T at_ C fa m) (at_ + m) (mn_b (mv_rd 32 C (fa + m)))
theorem wr_mv1 {pf pt fa at_ nn q qf C T m : Nat} (hm : m < nn) (hne : pf ≠ pt) (hpf : pf < 1024) (hpt : pt < 1024) (hC : mv_get 10 w pf = (1, 1, qf, C)) (hqf : qf ≤ 2147483647) (hn : fa + nn ≤ qf) (hq : q ≤ 2147483647) (ha : at_ + nn ≤ q) : sy_R 110 n 0 0 3 [(2, pf, 0), (0, fa, 0), (2, pt, 0), (0, at_, 0), (0, nn, 0), (0, m, 0)] [] (mv_set 10 w pt (1, 1, q, T)) 3 [(2, pf, 0), (0, fa, 0), (2, pt, 0), (0, at_, 0), (0, nn, 0), (0, m + 1, 0)] [] (mv_set 10 w pt (1, 1, q, mv_wr 32 T (at_ + m) (mn_b (mv_rd 32 C (fa + m))))) := by
  refine sy_ild xc110_3 rfl rfl ?_
  refine sy_ild xc110_5 rfl rfl ?_
  refine sy_ge_f xc110_7 (by decide) hm (by omega) ?_
  refine sy_aldn xc110_10 rfl rfl ?_
  refine sy_ildn xc110_11 rfl rfl ?_
  refine sy_ild xc110_12 rfl rfl ?_
  refine sy_trans (sx_iadd (z := at_ + m) xc110_14 (Nat.mod_eq_of_lt (by omega))) ?_
  refine sy_aldn xc110_15 rfl rfl ?_
  refine sy_ildn xc110_16 rfl rfl ?_
  refine sy_ild xc110_17 rfl rfl ?_
  refine sy_trans (sx_iadd (z := fa + m) xc110_19 (Nat.mod_eq_of_lt (by omega))) ?_
  refine sy_bal (i := fa + m) xc110_20 ((mv_gn hpt hpf hne).trans hC) rfl (by omega) hqf ?_
  refine sy_bas (i := at_ + m) xc110_21 (mv_gs hpt) rfl (by omega) hq (mv_ss hpt) ?_
  refine sy_trans (sx_iinc (c := 1) (z := m + 1) (ls' := [(2, pf, 0), (0, fa, 0), (2, pt, 0), (0, at_, 0), (0, nn, 0), (0, m + 1, 0)]) xc110_22 rfl (by decide) (by rw [xl110]; rfl) rfl (Nat.mod_eq_of_lt (by omega)) rfl) ?_
  exact sy_goto (pc' := 3) xc110_25 (by decide) (by decide) sy_refl
theorem wr_mvn {pf pt fa at_ nn q qf C T : Nat} (hne : pf ≠ pt) (hpf : pf < 1024) (hpt : pt < 1024) (hC : mv_get 10 w pf = (1, 1, qf, C)) (hqf : qf ≤ 2147483647) (hn : fa + nn ≤ qf) (hq : q ≤ 2147483647) (ha : at_ + nn ≤ q) : ∀ m, m ≤ nn → sy_R 110 n 0 0 3 [(2, pf, 0), (0, fa, 0), (2, pt, 0), (0, at_, 0), (0, nn, 0), (0, 0, 0)] [] (mv_set 10 w pt (1, 1, q, T)) 3 [(2, pf, 0), (0, fa, 0), (2, pt, 0), (0, at_, 0), (0, nn, 0), (0, m, 0)] [] (mv_set 10 w pt (1, 1, q, mo_T T at_ C fa m))
  | 0, _ => sy_refl
  | m + 1, h => sy_trans (wr_mvn hne hpf hpt hC hqf hn hq ha m (by omega)) (wr_mv1 (T := mo_T T at_ C fa m) (by omega) hne hpf hpt hC hqf hn hq ha)
theorem wr_move {pf pt fa at_ nn q qf C T : Nat} (hne : pf ≠ pt) (hpf : pf < 1024) (hpt : pt < 1024) (hC : mv_get 10 w pf = (1, 1, qf, C)) (hT : mv_get 10 w pt = (1, 1, q, T)) (hqf : qf ≤ 2147483647) (hn : fa + nn ≤ qf) (hq : q ≤ 2147483647) (ha : at_ + nn ≤ q) : sy_C 110 n 0 0 [(2, pf, 0), (0, fa, 0), (2, pt, 0), (0, at_, 0), (0, nn, 0)] w [] (mv_set 10 w pt (1, 1, q, mo_T T at_ C fa nn)) := by
  refine sy_Cof (us := [(255, 0, 0)]) (ls' := [(2, pf, 0), (0, fa, 0), (2, pt, 0), (0, at_, 0), (0, nn, 0), (0, nn, 0)]) (pe := 28) (sy_oks_cons (sy_ok2 hpf) (sy_oks_cons (sy_ok0 (by omega)) (sy_oks_cons (sy_ok2 hpt) (sy_oks_cons (sy_ok0 (by omega)) (sy_oks_cons (sy_ok0 (by omega)) sy_oks_nil))))) rfl rfl ?_ (fun L f => sy_ret xc110_28 xr110)
  have e : w = mv_set 10 w pt (1, 1, q, T) := (mv_sg hpt hT).symm
  refine sy_iconst (v := 0) xc110_0 (by decide) ?_
  refine sy_trans (sx_ist (j := 5) (ls' := [(2, pf, 0), (0, fa, 0), (2, pt, 0), (0, at_, 0), (0, nn, 0), (0, 0, 0)]) xc110_1 rfl (sy_ok0 (by decide)) (by rw [xl110]; rfl) rfl rfl) ?_
  have h := wr_mvn (n := n) (w := w) (T := T) hne hpf hpt hC hqf hn hq ha nn (Nat.le_refl nn)
  rw [← e] at h
  refine sy_trans h ?_
  refine sy_ild xc110_3 rfl rfl ?_
  refine sy_ild xc110_5 rfl rfl ?_
  exact sy_ge_t (pc' := 28) xc110_7 (by decide) (Nat.le_refl nn) (by omega) (by decide) sy_refl
theorem mo_T_rd (T at_ C fa : Nat) : ∀ m j, mv_rd 32 (mo_T T at_ C fa m) j = if at_ ≤ j ∧ j < at_ + m then mn_b (mv_rd 32 C (fa + (j - at_))) % 2 ^ 32 else mv_rd 32 T j
  | 0, j => by rw [if_neg (by omega)]; rfl
  | m + 1, j => by
    show mv_rd 32 (mv_wr 32 (mo_T T at_ C fa m) (at_ + m) (mn_b (mv_rd 32 C (fa + m)))) j = _
    rw [mv_rd_wr]
    by_cases e : j = at_ + m
    · subst e
      rw [if_pos rfl, if_pos (by omega), show at_ + m - at_ = m by omega]
    · rw [if_neg e, mo_T_rd T at_ C fa m j]
      by_cases h : at_ ≤ j ∧ j < at_ + m
      · rw [if_pos h, if_pos (by omega)]
      · rw [if_neg h, if_neg (by omega)]
end RH
