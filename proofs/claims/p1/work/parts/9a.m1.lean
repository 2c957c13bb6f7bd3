/-! THE REFERENCE'S MINE, I -/
theorem xc96_0 : tt_cd 96 0 = (2, .iconst 0, 1) := by decide +kernel
theorem xc96_1 : tt_cd 96 1 = (1, .istore_n 3, 1) := by decide +kernel
theorem xl96 : tt_mL 96 = 4 := by decide +kernel
theorem xc96_2 : tt_cd 96 2 = (1, .iload_n 3, 1) := by decide +kernel
theorem xc96_3 : tt_cd 96 3 = (2, .iconst 4, 1) := by decide +kernel
theorem xc96_4 : tt_cd 96 4 = (5, .if_icmp .ge 24, 3) := by decide +kernel
theorem xc96_7 : tt_cd 96 7 = (1, .aload_n 0, 1) := by decide +kernel
theorem xc96_8 : tt_cd 96 8 = (1, .iload_n 1, 1) := by decide +kernel
theorem xc96_9 : tt_cd 96 9 = (1, .iload_n 3, 1) := by decide +kernel
theorem xc96_10 : tt_cd 96 10 = (2, .iadd, 1) := by decide +kernel
theorem xc96_11 : tt_cd 96 11 = (1, .iload_n 2, 1) := by decide +kernel
theorem xc96_12 : tt_cd 96 12 = (4, .bipush 24, 2) := by decide +kernel
theorem xc96_14 : tt_cd 96 14 = (4, .bipush 8, 2) := by decide +kernel
theorem xc96_16 : tt_cd 96 16 = (1, .iload_n 3, 1) := by decide +kernel
theorem xc96_17 : tt_cd 96 17 = (2, .imul, 1) := by decide +kernel
theorem xc96_18 : tt_cd 96 18 = (2, .isub, 1) := by decide +kernel
theorem xc96_19 : tt_cd 96 19 = (2, .iushr, 1) := by decide +kernel
theorem xc96_20 : tt_cd 96 20 = (2, .i2b, 1) := by decide +kernel
theorem xc96_21 : tt_cd 96 21 = (6, .bastore, 1) := by decide +kernel
theorem xc96_22 : tt_cd 96 22 = (1, .iinc 3 1, 3) := by decide +kernel
theorem xc96_25 : tt_cd 96 25 = (5, .goto (-23), 3) := by decide +kernel
theorem xc96_28 : tt_cd 96 28 = (9, .return_, 1) := by decide +kernel
theorem xr96 : tt_mr 96 = 0 := by decide +kernel
theorem xc116_0 : tt_cd 116 0 = (2, .iconst 4, 1) := by decide +kernel
theorem xc116_1 : tt_cd 116 1 = (1, .iload_n 1, 1) := by decide +kernel
theorem xc116_2 : tt_cd 116 2 = (2, .imul, 1) := by decide +kernel
theorem xc116_3 : tt_cd 116 3 = (1, .iload_n 2, 1) := by decide +kernel
theorem xc116_4 : tt_cd 116 4 = (2, .iadd, 1) := by decide +kernel
theorem xc116_5 : tt_cd 116 5 = (9, .ireturn, 1) := by decide +kernel
theorem xr116 : tt_mr 116 = 1 := by decide +kernel
theorem xc115_0 : tt_cd 115 0 = (4, .sipush 1900, 3) := by decide +kernel
theorem xc115_3 : tt_cd 115 3 = (1, .iload_n 1, 1) := by decide +kernel
theorem xc115_4 : tt_cd 115 4 = (2, .imul, 1) := by decide +kernel
theorem xc115_5 : tt_cd 115 5 = (1, .aload_n 0, 1) := by decide +kernel
theorem xc115_6 : tt_cd 115 6 = (3, .getfield 364, 3) := by decide +kernel
theorem xf115_364 : tt_fl 115 364 = (1, 0, 31) := by decide +kernel
theorem xc115_9 : tt_cd 115 9 = (1, .aload_n 0, 1) := by decide +kernel
theorem xc115_10 : tt_cd 115 10 = (1, .iload_n 1, 1) := by decide +kernel
theorem xc115_11 : tt_cd 115 11 = (1, .iload_n 2, 1) := by decide +kernel
theorem xc115_12 : tt_cd 115 12 = (10, .invokevirtual 585, 3) := by decide +kernel
theorem xm115_585 : tt_ml 115 585 = (3, 116, 2) := by decide +kernel
theorem xi116 : tt_mci 116 = 0 := by decide +kernel
theorem xl116 : tt_mL 116 = 3 := by decide +kernel
theorem xc115_15 : tt_cd 115 15 = (3, .iaload, 1) := by decide +kernel
theorem xc115_16 : tt_cd 115 16 = (2, .iadd, 1) := by decide +kernel
theorem xc115_17 : tt_cd 115 17 = (9, .ireturn, 1) := by decide +kernel
theorem xr115 : tt_mr 115 = 1 := by decide +kernel
theorem xc119_0 : tt_cd 119 0 = (1, .aload_n 0, 1) := by decide +kernel
theorem xc119_1 : tt_cd 119 1 = (1, .iload_n 1, 1) := by decide +kernel
theorem xc119_2 : tt_cd 119 2 = (3, .baload, 1) := by decide +kernel
theorem xc119_3 : tt_cd 119 3 = (5, .ifCond .ne 9, 3) := by decide +kernel
theorem xc119_6 : tt_cd 119 6 = (1, .iload_n 1, 1) := by decide +kernel
theorem xc119_7 : tt_cd 119 7 = (2, .iconst 3, 1) := by decide +kernel
theorem xc119_8 : tt_cd 119 8 = (2, .iadd, 1) := by decide +kernel
theorem xc119_9 : tt_cd 119 9 = (5, .goto 13, 3) := by decide +kernel
theorem xc119_22 : tt_cd 119 22 = (9, .ireturn, 1) := by decide +kernel
theorem xr119 : tt_mr 119 = 1 := by decide +kernel
theorem xc118_0 : tt_cd 118 0 = (1, .aload_n 0, 1) := by decide +kernel
theorem xc118_1 : tt_cd 118 1 = (1, .aload_n 0, 1) := by decide +kernel
theorem xc118_2 : tt_cd 118 2 = (1, .iload_n 1, 1) := by decide +kernel
theorem xc118_3 : tt_cd 118 3 = (10, .invokestatic 254, 3) := by decide +kernel
theorem xm118_254 : tt_ml 118 254 = (1, 119, 2) := by decide +kernel
theorem xl119 : tt_mL 119 = 2 := by decide +kernel
theorem xc118_6 : tt_cd 118 6 = (3, .baload, 1) := by decide +kernel
theorem xc118_7 : tt_cd 118 7 = (9, .ireturn, 1) := by decide +kernel
theorem xr118 : tt_mr 118 = 1 := by decide +kernel
theorem xc120_0 : tt_cd 120 0 = (1, .aload_n 0, 1) := by decide +kernel
theorem xc120_1 : tt_cd 120 1 = (1, .iload_n 1, 1) := by decide +kernel
theorem xc120_2 : tt_cd 120 2 = (10, .invokestatic 254, 3) := by decide +kernel
theorem xm120_254 : tt_ml 120 254 = (1, 119, 2) := by decide +kernel
theorem xc120_5 : tt_cd 120 5 = (2, .iconst 1, 1) := by decide +kernel
theorem xc120_6 : tt_cd 120 6 = (2, .iadd, 1) := by decide +kernel
theorem xc120_7 : tt_cd 120 7 = (4, .bipush 24, 2) := by decide +kernel
theorem xc120_9 : tt_cd 120 9 = (1, .iload_n 2, 1) := by decide +kernel
theorem xc120_10 : tt_cd 120 10 = (2, .imul, 1) := by decide +kernel
theorem xc120_11 : tt_cd 120 11 = (2, .iadd, 1) := by decide +kernel
theorem xc120_12 : tt_cd 120 12 = (9, .ireturn, 1) := by decide +kernel
theorem xr120 : tt_mr 120 = 1 := by decide +kernel
theorem xc117_0 : tt_cd 117 0 = (1, .aload_n 0, 1) := by decide +kernel
theorem xc117_1 : tt_cd 117 1 = (1, .iload_n 1, 1) := by decide +kernel
theorem xc117_2 : tt_cd 117 2 = (3, .baload, 1) := by decide +kernel
theorem xc117_3 : tt_cd 117 3 = (9, .ireturn, 1) := by decide +kernel
theorem xr117 : tt_mr 117 = 1 := by decide +kernel
theorem xc129_0 : tt_cd 129 0 = (2, .iconst 0, 1) := by decide +kernel
theorem xc129_1 : tt_cd 129 1 = (1, .istore_n 2, 1) := by decide +kernel
theorem xl129 : tt_mL 129 = 3 := by decide +kernel
theorem xc129_2 : tt_cd 129 2 = (1, .iload_n 2, 1) := by decide +kernel
theorem xc129_3 : tt_cd 129 3 = (1, .aload_n 0, 1) := by decide +kernel
theorem xc129_4 : tt_cd 129 4 = (3, .getfield 616, 3) := by decide +kernel
theorem xf129_616 : tt_fl 129 616 = (1, 0, 60) := by decide +kernel
theorem xc129_7 : tt_cd 129 7 = (5, .if_icmp .ge 31, 3) := by decide +kernel
theorem xc129_38 : tt_cd 129 38 = (1, .aload_n 0, 1) := by decide +kernel
theorem xc129_39 : tt_cd 129 39 = (3, .getfield 361, 3) := by decide +kernel
theorem xf129_361 : tt_fl 129 361 = (1, 0, 30) := by decide +kernel
theorem xc129_42 : tt_cd 129 42 = (1, .iload_n 1, 1) := by decide +kernel
theorem xc129_43 : tt_cd 129 43 = (1, .aload_n 0, 1) := by decide +kernel
theorem xc129_44 : tt_cd 129 44 = (3, .getfield 439, 3) := by decide +kernel
theorem xf129_439 : tt_fl 129 439 = (1, 0, 59) := by decide +kernel
theorem xc129_47 : tt_cd 129 47 = (4, .bipush 20, 2) := by decide +kernel
theorem xc129_49 : tt_cd 129 49 = (1, .aload_n 0, 1) := by decide +kernel
theorem xc129_50 : tt_cd 129 50 = (3, .getfield 616, 3) := by decide +kernel
theorem xc129_53 : tt_cd 129 53 = (2, .imul, 1) := by decide +kernel
theorem xc129_54 : tt_cd 129 54 = (4, .bipush 20, 2) := by decide +kernel
theorem xc129_56 : tt_cd 129 56 = (10, .invokestatic 184, 3) := by decide +kernel
theorem xm129_184 : tt_ml 129 184 = (1, 110, 5) := by decide +kernel
theorem xc129_59 : tt_cd 129 59 = (1, .aload_n 0, 1) := by decide +kernel
theorem xc129_60 : tt_cd 129 60 = (2, .dup, 1) := by decide +kernel
theorem xc129_61 : tt_cd 129 61 = (3, .getfield 616, 3) := by decide +kernel
theorem xc129_64 : tt_cd 129 64 = (2, .iconst 1, 1) := by decide +kernel
theorem xc129_65 : tt_cd 129 65 = (2, .iadd, 1) := by decide +kernel
theorem xc129_66 : tt_cd 129 66 = (6, .putfield 616, 3) := by decide +kernel
theorem xt0_60 : tt_fty 0 60 = .int := by decide +kernel
theorem xn0_60 : tt_ffin 0 60 = false := by decide +kernel
theorem xc129_69 : tt_cd 129 69 = (9, .return_, 1) := by decide +kernel
theorem xr129 : tt_mr 129 = 0 := by decide +kernel
theorem xc130_0 : tt_cd 130 0 = (1, .aload_n 0, 1) := by decide +kernel
theorem xc130_1 : tt_cd 130 1 = (3, .getfield 406, 3) := by decide +kernel
theorem xf130_406 : tt_fl 130 406 = (1, 0, 45) := by decide +kernel
theorem xc130_4 : tt_cd 130 4 = (4, .bipush 80, 2) := by decide +kernel
theorem xc130_6 : tt_cd 130 6 = (1, .iload_n 1, 1) := by decide +kernel
theorem xc130_7 : tt_cd 130 7 = (2, .imul, 1) := by decide +kernel
theorem xc130_8 : tt_cd 130 8 = (1, .aload_n 0, 1) := by decide +kernel
theorem xc130_9 : tt_cd 130 9 = (3, .getfield 619, 3) := by decide +kernel
theorem xf130_619 : tt_fl 130 619 = (1, 0, 61) := by decide +kernel
theorem xc130_12 : tt_cd 130 12 = (4, .bipush 8, 2) := by decide +kernel
theorem xc130_14 : tt_cd 130 14 = (2, .idiv, 1) := by decide +kernel
theorem xc130_15 : tt_cd 130 15 = (2, .iadd, 1) := by decide +kernel
theorem xc130_16 : tt_cd 130 16 = (1, .aload_n 0, 1) := by decide +kernel
theorem xc130_17 : tt_cd 130 17 = (3, .getfield 406, 3) := by decide +kernel
theorem xc130_20 : tt_cd 130 20 = (4, .bipush 80, 2) := by decide +kernel
theorem xc130_22 : tt_cd 130 22 = (1, .iload_n 1, 1) := by decide +kernel
theorem xc130_23 : tt_cd 130 23 = (2, .imul, 1) := by decide +kernel
theorem xc130_24 : tt_cd 130 24 = (1, .aload_n 0, 1) := by decide +kernel
theorem xc130_25 : tt_cd 130 25 = (3, .getfield 619, 3) := by decide +kernel
theorem xc130_28 : tt_cd 130 28 = (4, .bipush 8, 2) := by decide +kernel
theorem xc130_30 : tt_cd 130 30 = (2, .idiv, 1) := by decide +kernel
theorem xc130_31 : tt_cd 130 31 = (2, .iadd, 1) := by decide +kernel
theorem xc130_32 : tt_cd 130 32 = (3, .baload, 1) := by decide +kernel
theorem xc130_33 : tt_cd 130 33 = (1, .iload_n 2, 1) := by decide +kernel
theorem xc130_34 : tt_cd 130 34 = (4, .bipush 7, 2) := by decide +kernel
theorem xc130_36 : tt_cd 130 36 = (1, .aload_n 0, 1) := by decide +kernel
theorem xc130_37 : tt_cd 130 37 = (3, .getfield 619, 3) := by decide +kernel
theorem xc130_40 : tt_cd 130 40 = (4, .bipush 8, 2) := by decide +kernel
theorem xc130_42 : tt_cd 130 42 = (2, .irem, 1) := by decide +kernel
theorem xc130_43 : tt_cd 130 43 = (2, .isub, 1) := by decide +kernel
theorem xc130_44 : tt_cd 130 44 = (2, .ishl, 1) := by decide +kernel
theorem xc130_45 : tt_cd 130 45 = (2, .ior, 1) := by decide +kernel
theorem xc130_46 : tt_cd 130 46 = (2, .i2b, 1) := by decide +kernel
theorem xc130_47 : tt_cd 130 47 = (6, .bastore, 1) := by decide +kernel
theorem xc130_48 : tt_cd 130 48 = (1, .aload_n 0, 1) := by decide +kernel
theorem xc130_49 : tt_cd 130 49 = (2, .dup, 1) := by decide +kernel
theorem xc130_50 : tt_cd 130 50 = (3, .getfield 619, 3) := by decide +kernel
theorem xc130_53 : tt_cd 130 53 = (2, .iconst 1, 1) := by decide +kernel
theorem xc130_54 : tt_cd 130 54 = (2, .iadd, 1) := by decide +kernel
theorem xc130_55 : tt_cd 130 55 = (6, .putfield 619, 3) := by decide +kernel
theorem xt0_61 : tt_fty 0 61 = .int := by decide +kernel
theorem xn0_61 : tt_ffin 0 61 = false := by decide +kernel
theorem xc130_58 : tt_cd 130 58 = (9, .return_, 1) := by decide +kernel
theorem xr130 : tt_mr 130 = 0 := by decide +kernel
/-! THE REFERENCE'S MINE, I -/
def jQ : List Nat := [0, 12, 7, 10, 11, 9, 8, 15, 13, 14, 37, 38, 39, 40, 41, 42, 44, 35, 36, 57, 31, 32, 33, 30, 34, 59, 47, 48, 45, 46, 18, 58, 43, 54, 49, 53, 60, 61, 17]
section QH
variable {n : Nat} {pl : Nat → Nat} {w0 w : mv_T 10}
theorem wq_hash {cs : List mv_C} {vs : List mv_V} {X P Wd V St A Mi T C u l q qf at_ fa nn it jf : Nat} {f : Nat → Nat} (hw : wh 32 pl w0 w cs) (c0 : cs[0]? = some (0, 0, 107, X)) (c1 : cs[1]? = some (1, 1, 64, P)) (c2 : cs[2]? = some (1, 0, 64, mc_K)) (c3 : cs[3]? = some (1, 0, 64, Wd)) (c4 : cs[4]? = some (1, 0, 8, V)) (c5 : cs[5]? = some (1, 0, 8, St)) (c6 : cs[6]? = some (1, 0, 8, A)) (c7 : cs[7]? = some (1, 1, 32, Mi)) (ct : cs[it]? = some (1, 1, q, T)) (hit : 7 < it) (hit2 : it < 32) (cf : cs[jf]? = some (1, 1, qf, C)) (hjf : 7 < jf) (hjf2 : jf < 32) (hX : fh X jQ vs) (v1 : vs[1]? = some (2, pl 1, 0)) (v2 : vs[2]? = some (2, pl 2, 0)) (v3 : vs[3]? = some (2, pl 3, 0)) (v4 : vs[4]? = some (2, pl 4, 0)) (v5 : vs[5]? = some (2, pl 5, 0)) (v6 : vs[6]? = some (2, pl 6, 0)) (v7 : vs[7]? = some (2, pl 7, 0)) (v8 : vs[8]? = some (0, u, 0)) (v9 : vs[9]? = some (1, l, 0)) (hq : q ≤ 2147483647) (ha : at_ + 32 ≤ q) (hqf : qf ≤ 2147483647) (hn : fa + nn ≤ qf) (hA : ∀ i, i < 8 → mv_rd 32 A i = mv_rd 32 hs_S0 i) (hf : ∀ j, j < nn → mv_rd 32 C (fa + j) = f j) (hnn : nn < 1048576) :
    ∃ (w' : mv_T 10) (X' P' W' V' S' M' T' u' l' : Nat), sy_C 100 n 4 97 [(2, pl 0, 0), (2, pl jf, 0), (0, fa, 0), (0, nn, 0), (2, pl it, 0), (0, at_, 0)] w [] w' ∧ wh 32 pl w0 w' (((((((cs.set 7 (1, 1, 32, M')).set it (1, 1, q, T')).set 1 (1, 1, 64, P')).set 0 (0, 0, 107, X')).set 3 (1, 0, 64, W')).set 4 (1, 0, 8, V')).set 5 (1, 0, 8, S')) ∧ fh X' jQ ((vs.set 8 (0, u', 0)).set 9 (1, l', 0)) ∧ (u' < 64 ∧ l' < 18446744073709551616) ∧ ∀ j, mv_rd 32 T' j = if at_ ≤ j ∧ j < at_ + 32 then bk_D (hs_2 f nn) (j - at_) else mv_rd 32 T j := by
  have L : ∀ i, i < 32 → pl i < 1024 := fun i hi => wh_lt hw i hi
  have E : ∀ i j, i < 32 → j < 32 → i ≠ j → pl i ≠ pl j := fun i j hi hj e => wh_ne hw i j hi hj e
  have D : rs_D w (pl 0) (pl 1) (pl 2) (pl 3) (pl 4) (pl 5) X mc_K := ⟨⟨L 0 (by decide), L 1 (by decide), L 2 (by decide), L 3 (by decide), L 4 (by decide), L 5 (by decide)⟩, ⟨E 3 4 (by decide) (by decide) (by decide), E 3 5 (by decide) (by decide) (by decide), E 4 5 (by decide) (by decide) (by decide)⟩, ⟨E 0 3 (by decide) (by decide) (by decide), E 0 4 (by decide) (by decide) (by decide), E 0 5 (by decide) (by decide) (by decide)⟩, ⟨E 1 3 (by decide) (by decide) (by decide), E 1 4 (by decide) (by decide) (by decide), E 1 5 (by decide) (by decide) (by decide)⟩, ⟨E 2 3 (by decide) (by decide) (by decide), E 2 4 (by decide) (by decide) (by decide), E 2 5 (by decide) (by decide) (by decide)⟩, ⟨E 0 1 (by decide) (by decide) (by decide), E 2 1 (by decide) (by decide) (by decide), E 2 0 (by decide) (by decide) (by decide)⟩, wh_at hw 2 c2, fh_at hX 3 rfl v3, fh_at hX 1 rfl v1, fh_at hX 4 rfl v4, fh_at hX 5 rfl v5, fh_at hX 2 rfl v2⟩
  have O : ∀ i, 5 < i → i < 32 → rs_O (pl 0) (pl 1) (pl 3) (pl 4) (pl 5) (pl i) := fun i h5 hi => ⟨L i hi, E i 0 hi (by decide) (by omega), E i 1 hi (by decide) (by omega), E i 3 hi (by decide) (by omega), E i 4 hi (by decide) (by omega), E i 5 hi (by decide) (by omega)⟩
  have x1 : rs_x X u l = X := by
    unfold rs_x
    have r1 := mv_enc_dec (by decide) (fh_at hX 8 (j := 13) rfl v8)
    have r2 := mv_enc_dec (by decide) (fh_at hX 9 (j := 14) rfl v9)
    have q1 : mv_wr 136 X 13 (mv_enc (0, u, 0)) = X := by
      refine mv_wr_rd ?_
      rw [← r1]
      exact (Nat.mod_eq_of_lt (mv_rd_lt 136 X _)).symm
    rw [q1]
    refine mv_wr_rd ?_
    rw [← r2]
    exact (Nat.mod_eq_of_lt (mv_rd_lt 136 X _)).symm
  have eW : rs_W w (pl 0) (pl 1) (pl 3) (pl 4) (pl 5) X (u, l, P, Wd, V, St) = w := by
    show rs_w w (pl 0) (pl 1) (pl 3) (pl 4) (pl 5) (rs_x X u l) P Wd V St = w
    rw [x1]
    unfold rs_w
    rw [mv_sg (L 1 (by decide)) (wh_at hw 1 c1), mv_sg (L 0 (by decide)) (wh_at hw 0 c0)]
    unfold mr_w
    rw [mv_sg (L 3 (by decide)) (wh_at hw 3 c3), mv_sg (L 4 (by decide)) (wh_at hw 4 c4), mv_sg (L 5 (by decide)) (wh_at hw 5 c5)]
  have h := rs_hash (n := n) (s := (u, l, P, Wd, V, St)) D (O 6 (by decide) (by decide)) (wh_at hw 6 c6) (fh_at hX 6 rfl v6) (O 7 (by decide) (by decide)) (E 2 7 (by decide) (by decide) (by decide)) (E 6 7 (by decide) (by decide) (by decide)) (wh_at hw 7 c7) (fh_at hX 7 rfl v7) (O it (by omega) hit2) (E 2 it (by decide) hit2 (by omega)) (E 7 it (by decide) hit2 (by omega)) (wh_at hw it ct) hq ha (O jf (by omega) hjf2) (wh_at hw jf cf) hqf hn
  rw [eW] at h
  have ok : (rs_h mc_K A C fa nn Mi (u, l, P, Wd, V, St)).1 < 64 ∧ (rs_h mc_K A C fa nn Mi (u, l, P, Wd, V, St)).2.1 < 18446744073709551616 := by
    unfold rs_h
    exact rs_e_ok (rs_n_ok rs_b_u 32)
  have hT : ∀ j, mv_rd 32 (rs_o T at_ (rs_h mc_K A C fa nn Mi (u, l, P, Wd, V, St)).2.2.2.2.2 32) j = if at_ ≤ j ∧ j < at_ + 32 then bk_D (hs_2 f nn) (j - at_) else mv_rd 32 T j := fun j => hs_ref hA hf hnn j
  generalize rs_h mc_K A C fa nn Mi (u, l, P, Wd, V, St) = R at h ok hT
  generalize rs_hm mc_K A C fa nn Mi (u, l, P, Wd, V, St) = HM at h
  generalize rs_o T at_ R.2.2.2.2.2 32 = TT at h hT
  refine ⟨_, rs_x X R.1 R.2.1, R.2.2.1, R.2.2.2.1, R.2.2.2.2.1, R.2.2.2.2.2, HM, TT, R.1, R.2.1, h, ?_, ?_, ok, hT⟩
  · unfold rs_W rs_w mr_w
    exact wh_set (wh_set (wh_set (wh_set (wh_set (wh_set (wh_set hw 7 (by decide) _) it hit2 _) 1 (by decide) _) 0 (by decide) _) 3 (by decide) _) 4 (by decide) _) 5 (by decide) _
  · unfold rs_x
    exact fh_set (fh_set hX (by decide) 8 rfl (sy_ok0 (by have := ok.1; omega))) (by decide) 9 rfl (sy_ok1 ok.2)
theorem wh_one {c : mv_C} {w' : mv_T 10} (h : wh 1 pl w w' [c]) : w' = mv_set 10 w (pl 0) c := by
  refine mv_ext 10 _ _ (fun i hi => ?_)
  by_cases e : i = pl 0
  · subst e
    rw [mv_gs hi]
    exact h.1 0 c rfl
  · rw [mv_gn (h.2.2.1 0 (by decide)) hi e]
    exact h.2.2.2.2 i hi (fun k hk => by
      have : k = 0 := by omega
      subst this
      exact Ne.symm e)
theorem wh_1 {p : Nat} {c : mv_C} (hp : p < 1024) (h : mv_get 10 w p = c) : wh 1 (fun _ => p) w w [c] := by
  refine ⟨fun i x hx => ?_, fun i j hi hj e => absurd (by omega) e, fun _ _ => hp, Nat.le_refl 1, fun _ _ _ => rfl⟩
  match i, hx with
  | 0, hx => cases hx; exact h
  | i + 1, hx => exact absurd hx (by simp)
def pw_4 (T at_ v : Nat) : Nat := mv_wr 32 (mv_wr 32 (mv_wr 32 (mv_wr 32 T (at_ + 0) (mn_b (mn_b (mo_ushr v 24)))) (at_ + 1) (mn_b (mn_b (mo_ushr v 16)))) (at_ + 2) (mn_b (mn_b (mo_ushr v 8)))) (at_ + 3) (mn_b (mn_b (mo_ushr v 0)))
theorem pw_run1 {q T at_ v : Nat} (hw : wh 1 pl w0 w [(1, 1, q, T)]) (hq : q ≤ 2147483647) (ha : at_ + 4 ≤ q) (hv : v < 4294967296) : sy_D 96 n 0 0 [(2, pl 0, 0), (0, at_, 0), (0, v, 0)] w (fun ret w' => ret = [] ∧ wh 1 pl w0 w' [(1, 1, q, pw_4 T at_ v)]) := by
  refine sy_Dof (us := [(255, 0, 0)]) (sy_oks_cons (sy_ok2 (wh_lt hw 0 (by decide))) (sy_oks_cons (sy_ok0 (by omega)) (sy_oks_cons (sy_ok0 hv) sy_oks_nil))) rfl rfl ?_
  show sy_F 96 n 0 0 0 [(2, pl 0, 0), (0, at_, 0), (0, v, 0), (255, 0, 0)] [] w _
  refine sy_Fs (sy_iconst (v := 0) xc96_0 (by decide) sy_refl) ?_
  refine sy_Fs (sx_istn (j := 3) (ls' := [(2, pl 0, 0), (0, at_, 0), (0, v, 0), (0, 0, 0)]) xc96_1 rfl rfl (sy_ok0 (by first | decide | assumption | omega | exact mo_rd_lt _ _ | exact mo_add_lt _ _ | exact mo_sub_lt _ _ | exact mo_mul_lt _ _ | exact mo_shl_lt _ _ | exact mo_ushr_lt _ _ | exact mo_or_lt (by decide) (mo_and_lt (mo_rd_lt _ _)) | exact mo_or_lt (mo_shl_lt _ _) (mo_and_lt (mo_rd_lt _ _)))) (by rw [xl96]; rfl) rfl rfl) ?_
  refine sy_Fs (sy_ildn xc96_2 rfl rfl sy_refl) ?_
  refine sy_Fs (sy_iconst (v := 4) xc96_3 (by decide) sy_refl) ?_
  refine sy_Fs (sy_ge_f xc96_4 (by decide) (by decide) (by decide) sy_refl) ?_
  refine sy_Fs (sy_aldn xc96_7 rfl rfl sy_refl) ?_
  refine sy_Fs (sy_ildn xc96_8 rfl rfl sy_refl) ?_
  refine sy_Fs (sy_ildn xc96_9 rfl rfl sy_refl) ?_
  refine sy_Fs (sx_iadd (z := (at_ + 0)) xc96_10 (Nat.mod_eq_of_lt (by omega))) ?_
  refine sy_Fs (sy_ildn xc96_11 rfl rfl sy_refl) ?_
  refine sy_Fs (sy_bipush (v := 24) xc96_12 (by decide) (by decide) sy_refl) ?_
  refine sy_Fs (sy_bipush (v := 8) xc96_14 (by decide) (by decide) sy_refl) ?_
  refine sy_Fs (sy_ildn xc96_16 rfl rfl sy_refl) ?_
  refine sy_Fs (sx_imul (z := 0) xc96_17 (by decide)) ?_
  refine sy_Fs (sx_isub (z := 24) xc96_18 (by decide)) ?_
  refine sy_Fs (sx_iushr (z := (mo_ushr v 24)) xc96_19 rfl) ?_
  refine sy_Fs (sx_i2b (z := (mn_b (mo_ushr v 24))) xc96_20 rfl) ?_
  refine sy_Fw (i := 0) (x := (1, 1, q, (mv_wr 32 T (at_ + 0) (mn_b (mn_b (mo_ushr v 24)))))) hw (by decide) (sy_bas (i := (at_ + 0)) xc96_21 (wh_at hw 0 rfl) rfl (by omega) hq rfl sy_refl) ?_
  intro w hw
  simp only [List.set_cons_zero, List.set_cons_succ] at hw
  refine sy_Fs (sx_iinc (c := 1) (z := 1) (ls' := [(2, pl 0, 0), (0, at_, 0), (0, v, 0), (0, 1, 0)]) xc96_22 rfl (by decide) (by rw [xl96]; rfl) rfl (by decide) rfl) ?_
  refine sy_Fs (sy_goto (pc' := 2) xc96_25 (by decide) (by decide) sy_refl) ?_
  refine sy_Fs (sy_ildn xc96_2 rfl rfl sy_refl) ?_
  refine sy_Fs (sy_iconst (v := 4) xc96_3 (by decide) sy_refl) ?_
  refine sy_Fs (sy_ge_f xc96_4 (by decide) (by decide) (by decide) sy_refl) ?_
  refine sy_Fs (sy_aldn xc96_7 rfl rfl sy_refl) ?_
  refine sy_Fs (sy_ildn xc96_8 rfl rfl sy_refl) ?_
  refine sy_Fs (sy_ildn xc96_9 rfl rfl sy_refl) ?_
  refine sy_Fs (sx_iadd (z := (at_ + 1)) xc96_10 (Nat.mod_eq_of_lt (by omega))) ?_
  refine sy_Fs (sy_ildn xc96_11 rfl rfl sy_refl) ?_
  refine sy_Fs (sy_bipush (v := 24) xc96_12 (by decide) (by decide) sy_refl) ?_
  refine sy_Fs (sy_bipush (v := 8) xc96_14 (by decide) (by decide) sy_refl) ?_
  refine sy_Fs (sy_ildn xc96_16 rfl rfl sy_refl) ?_
  refine sy_Fs (sx_imul (z := 8) xc96_17 (by decide)) ?_
  refine sy_Fs (sx_isub (z := 16) xc96_18 (by decide)) ?_
  refine sy_Fs (sx_iushr (z := (mo_ushr v 16)) xc96_19 rfl) ?_
  refine sy_Fs (sx_i2b (z := (mn_b (mo_ushr v 16))) xc96_20 rfl) ?_
  refine sy_Fw (i := 0) (x := (1, 1, q, (mv_wr 32 (mv_wr 32 T (at_ + 0) (mn_b (mn_b (mo_ushr v 24)))) (at_ + 1) (mn_b (mn_b (mo_ushr v 16)))))) hw (by decide) (sy_bas (i := (at_ + 1)) xc96_21 (wh_at hw 0 rfl) rfl (by omega) hq rfl sy_refl) ?_
  intro w hw
  simp only [List.set_cons_zero, List.set_cons_succ] at hw
  refine sy_Fs (sx_iinc (c := 1) (z := 2) (ls' := [(2, pl 0, 0), (0, at_, 0), (0, v, 0), (0, 2, 0)]) xc96_22 rfl (by decide) (by rw [xl96]; rfl) rfl (by decide) rfl) ?_
  refine sy_Fs (sy_goto (pc' := 2) xc96_25 (by decide) (by decide) sy_refl) ?_
  refine sy_Fs (sy_ildn xc96_2 rfl rfl sy_refl) ?_
  refine sy_Fs (sy_iconst (v := 4) xc96_3 (by decide) sy_refl) ?_
  refine sy_Fs (sy_ge_f xc96_4 (by decide) (by decide) (by decide) sy_refl) ?_
  refine sy_Fs (sy_aldn xc96_7 rfl rfl sy_refl) ?_
  refine sy_Fs (sy_ildn xc96_8 rfl rfl sy_refl) ?_
  refine sy_Fs (sy_ildn xc96_9 rfl rfl sy_refl) ?_
  refine sy_Fs (sx_iadd (z := (at_ + 2)) xc96_10 (Nat.mod_eq_of_lt (by omega))) ?_
  refine sy_Fs (sy_ildn xc96_11 rfl rfl sy_refl) ?_
  refine sy_Fs (sy_bipush (v := 24) xc96_12 (by decide) (by decide) sy_refl) ?_
  refine sy_Fs (sy_bipush (v := 8) xc96_14 (by decide) (by decide) sy_refl) ?_
  refine sy_Fs (sy_ildn xc96_16 rfl rfl sy_refl) ?_
  refine sy_Fs (sx_imul (z := 16) xc96_17 (by decide)) ?_
  refine sy_Fs (sx_isub (z := 8) xc96_18 (by decide)) ?_
  refine sy_Fs (sx_iushr (z := (mo_ushr v 8)) xc96_19 rfl) ?_
  refine sy_Fs (sx_i2b (z := (mn_b (mo_ushr v 8))) xc96_20 rfl) ?_
  refine sy_Fw (i := 0) (x := (1, 1, q, (mv_wr 32 (mv_wr 32 (mv_wr 32 T (at_ + 0) (mn_b (mn_b (mo_ushr v 24)))) (at_ + 1) (mn_b (mn_b (mo_ushr v 16)))) (at_ + 2) (mn_b (mn_b (mo_ushr v 8)))))) hw (by decide) (sy_bas (i := (at_ + 2)) xc96_21 (wh_at hw 0 rfl) rfl (by omega) hq rfl sy_refl) ?_
  intro w hw
  simp only [List.set_cons_zero, List.set_cons_succ] at hw
  refine sy_Fs (sx_iinc (c := 1) (z := 3) (ls' := [(2, pl 0, 0), (0, at_, 0), (0, v, 0), (0, 3, 0)]) xc96_22 rfl (by decide) (by rw [xl96]; rfl) rfl (by decide) rfl) ?_
  refine sy_Fs (sy_goto (pc' := 2) xc96_25 (by decide) (by decide) sy_refl) ?_
  refine sy_Fs (sy_ildn xc96_2 rfl rfl sy_refl) ?_
  refine sy_Fs (sy_iconst (v := 4) xc96_3 (by decide) sy_refl) ?_
  refine sy_Fs (sy_ge_f xc96_4 (by decide) (by decide) (by decide) sy_refl) ?_
  refine sy_Fs (sy_aldn xc96_7 rfl rfl sy_refl) ?_
  refine sy_Fs (sy_ildn xc96_8 rfl rfl sy_refl) ?_
  refine sy_Fs (sy_ildn xc96_9 rfl rfl sy_refl) ?_
  refine sy_Fs (sx_iadd (z := (at_ + 3)) xc96_10 (Nat.mod_eq_of_lt (by omega))) ?_
  refine sy_Fs (sy_ildn xc96_11 rfl rfl sy_refl) ?_
  refine sy_Fs (sy_bipush (v := 24) xc96_12 (by decide) (by decide) sy_refl) ?_
  refine sy_Fs (sy_bipush (v := 8) xc96_14 (by decide) (by decide) sy_refl) ?_
  refine sy_Fs (sy_ildn xc96_16 rfl rfl sy_refl) ?_
  refine sy_Fs (sx_imul (z := 24) xc96_17 (by decide)) ?_
  refine sy_Fs (sx_isub (z := 0) xc96_18 (by decide)) ?_
  refine sy_Fs (sx_iushr (z := (mo_ushr v 0)) xc96_19 rfl) ?_
  refine sy_Fs (sx_i2b (z := (mn_b (mo_ushr v 0))) xc96_20 rfl) ?_
  refine sy_Fw (i := 0) (x := (1, 1, q, (mv_wr 32 (mv_wr 32 (mv_wr 32 (mv_wr 32 T (at_ + 0) (mn_b (mn_b (mo_ushr v 24)))) (at_ + 1) (mn_b (mn_b (mo_ushr v 16)))) (at_ + 2) (mn_b (mn_b (mo_ushr v 8)))) (at_ + 3) (mn_b (mn_b (mo_ushr v 0)))))) hw (by decide) (sy_bas (i := (at_ + 3)) xc96_21 (wh_at hw 0 rfl) rfl (by omega) hq rfl sy_refl) ?_
  intro w hw
  simp only [List.set_cons_zero, List.set_cons_succ] at hw
  refine sy_Fs (sx_iinc (c := 1) (z := 4) (ls' := [(2, pl 0, 0), (0, at_, 0), (0, v, 0), (0, 4, 0)]) xc96_22 rfl (by decide) (by rw [xl96]; rfl) rfl (by decide) rfl) ?_
  refine sy_Fs (sy_goto (pc' := 2) xc96_25 (by decide) (by decide) sy_refl) ?_
  refine sy_Fs (sy_ildn xc96_2 rfl rfl sy_refl) ?_
  refine sy_Fs (sy_iconst (v := 4) xc96_3 (by decide) sy_refl) ?_
  refine sy_Fs (sy_ge_t (pc' := 28) xc96_4 (by decide) (by decide) (by decide) (by decide) sy_refl) ?_
  exact sy_Fv xc96_28 xr96 ⟨rfl, hw⟩
theorem pw_run {p q T at_ v : Nat} (hp : p < 1024) (hT : mv_get 10 w p = (1, 1, q, T)) (hq : q ≤ 2147483647) (ha : at_ + 4 ≤ q) (hv : v < 4294967296) : sy_C 96 n 0 0 [(2, p, 0), (0, at_, 0), (0, v, 0)] w [] (mv_set 10 w p (1, 1, q, pw_4 T at_ v)) := by
  obtain ⟨ret, w', ⟨rfl, h⟩, hC⟩ := pw_run1 (n := n) (wh_1 hp hT) hq ha hv
  rw [← wh_one h]
  exact hC
theorem pw_rd (T at_ v j : Nat) : mv_rd 32 (pw_4 T at_ v) j = if at_ ≤ j ∧ j < at_ + 4 then mn_b (mn_b (mo_ushr v (24 - 8 * (j - at_)))) % 2 ^ 32 else mv_rd 32 T j := by
  unfold pw_4
  rw [mv_rd_wr, mv_rd_wr, mv_rd_wr, mv_rd_wr]
  by_cases h3 : j = at_ + 3
  · rw [if_pos h3, if_pos (by omega), show 24 - 8 * (j - at_) = 0 by omega]
  rw [if_neg h3]
  by_cases h2 : j = at_ + 2
  · rw [if_pos h2, if_pos (by omega), show 24 - 8 * (j - at_) = 8 by omega]
  rw [if_neg h2]
  by_cases h1 : j = at_ + 1
  · rw [if_pos h1, if_pos (by omega), show 24 - 8 * (j - at_) = 16 by omega]
  rw [if_neg h1]
  by_cases h0 : j = at_ + 0
  · rw [if_pos h0, if_pos (by omega), show 24 - 8 * (j - at_) = 24 by omega]
  rw [if_neg h0, if_neg (by omega)]
def wo_0 (T : Nat) : Nat := mo_or (mo_shl (mo_or (mo_shl (mo_or (mo_shl (mo_or 0 (mo_and (mv_rd 32 T 0) 255)) 8) (mo_and (mv_rd 32 T 1) 255)) 8) (mo_and (mv_rd 32 T 2) 255)) 8) (mo_and (mv_rd 32 T 3) 255)
theorem wo_run {p q T : Nat} (hp : p < 1024) (hT : mv_get 10 w p = (1, 1, q, T)) (hq : q ≤ 2147483647) (ha : 4 ≤ q) : sy_C 108 n 0 0 [(2, p, 0), (0, 0, 0)] w [(0, wo_0 T, 0)] w := by
  have hw := wh_1 hp hT
  refine sy_Cw (sy_Dof (us := [(255, 0, 0), (255, 0, 0)]) (sy_oks_cons (sy_ok2 hp) (sy_oks_cons (sy_ok0 (by omega)) sy_oks_nil)) rfl rfl ?_)
  show sy_F 108 n 0 0 0 [(2, (fun _ => p) 0, 0), (0, 0, 0), (255, 0, 0), (255, 0, 0)] [] w _
  refine sy_Fs (sy_iconst (v := 0) xc108_0 (by decide) sy_refl) ?_
  refine sy_Fs (sx_istn (j := 2) (ls' := [(2, (fun _ => p) 0, 0), (0, 0, 0), (0, 0, 0), (255, 0, 0)]) xc108_1 rfl rfl (sy_ok0 (by first | decide | assumption | omega | exact mo_rd_lt _ _ | exact mo_add_lt _ _ | exact mo_sub_lt _ _ | exact mo_mul_lt _ _ | exact mo_shl_lt _ _ | exact mo_ushr_lt _ _ | exact mo_or_lt (by decide) (mo_and_lt (mo_rd_lt _ _)) | exact mo_or_lt (mo_shl_lt _ _) (mo_and_lt (mo_rd_lt _ _)))) (by rw [xl108]; rfl) rfl rfl) ?_
  refine sy_Fs (sy_iconst (v := 0) xc108_2 (by decide) sy_refl) ?_
  refine sy_Fs (sx_istn (j := 3) (ls' := [(2, (fun _ => p) 0, 0), (0, 0, 0), (0, 0, 0), (0, 0, 0)]) xc108_3 rfl rfl (sy_ok0 (by first | decide | assumption | omega | exact mo_rd_lt _ _ | exact mo_add_lt _ _ | exact mo_sub_lt _ _ | exact mo_mul_lt _ _ | exact mo_shl_lt _ _ | exact mo_ushr_lt _ _ | exact mo_or_lt (by decide) (mo_and_lt (mo_rd_lt _ _)) | exact mo_or_lt (mo_shl_lt _ _) (mo_and_lt (mo_rd_lt _ _)))) (by rw [xl108]; rfl) rfl rfl) ?_
  refine sy_Fs (sy_ildn xc108_4 rfl rfl sy_refl) ?_
  refine sy_Fs (sy_iconst (v := 4) xc108_5 (by decide) sy_refl) ?_
  refine sy_Fs (sy_ge_f xc108_6 (by decide) (by decide) (by decide) sy_refl) ?_
  refine sy_Fs (sy_ildn xc108_9 rfl rfl sy_refl) ?_
  refine sy_Fs (sy_bipush (v := 8) xc108_10 (by decide) (by decide) sy_refl) ?_
  refine sy_Fs (sx_ishl (z := 0) xc108_12 (by decide)) ?_
  refine sy_Fs (sy_aldn xc108_13 rfl rfl sy_refl) ?_
  refine sy_Fs (sy_ildn xc108_14 rfl rfl sy_refl) ?_
  refine sy_Fs (sy_ildn xc108_15 rfl rfl sy_refl) ?_
  refine sy_Fs (sx_iadd (z := 0) xc108_16 (by decide)) ?_
  refine sy_Fs (sx_bal (z := (mv_rd 32 T 0)) xc108_17 (wh_at hw 0 rfl) (by omega) hq rfl) ?_
  refine sy_Fs (sy_sipush (v := 255) xc108_18 (by decide) (by decide) sy_refl) ?_
  refine sy_Fs (sx_iand (z := (mo_and (mv_rd 32 T 0) 255)) xc108_21 rfl) ?_
  refine sy_Fs (sx_ior (z := (mo_or 0 (mo_and (mv_rd 32 T 0) 255))) xc108_22 rfl) ?_
  refine sy_Fs (sx_istn (j := 2) (ls' := [(2, (fun _ => p) 0, 0), (0, 0, 0), (0, (mo_or 0 (mo_and (mv_rd 32 T 0) 255)), 0), (0, 0, 0)]) xc108_23 rfl rfl (sy_ok0 (by first | decide | assumption | omega | exact mo_rd_lt _ _ | exact mo_add_lt _ _ | exact mo_sub_lt _ _ | exact mo_mul_lt _ _ | exact mo_shl_lt _ _ | exact mo_ushr_lt _ _ | exact mo_or_lt (by decide) (mo_and_lt (mo_rd_lt _ _)) | exact mo_or_lt (mo_shl_lt _ _) (mo_and_lt (mo_rd_lt _ _)))) (by rw [xl108]; rfl) rfl rfl) ?_
  refine sy_Fs (sx_iinc (c := 1) (z := 1) (ls' := [(2, (fun _ => p) 0, 0), (0, 0, 0), (0, (mo_or 0 (mo_and (mv_rd 32 T 0) 255)), 0), (0, 1, 0)]) xc108_24 rfl (by decide) (by rw [xl108]; rfl) rfl (by decide) rfl) ?_
  refine sy_Fs (sy_goto (pc' := 4) xc108_27 (by decide) (by decide) sy_refl) ?_
  refine sy_Fs (sy_ildn xc108_4 rfl rfl sy_refl) ?_
  refine sy_Fs (sy_iconst (v := 4) xc108_5 (by decide) sy_refl) ?_
  refine sy_Fs (sy_ge_f xc108_6 (by decide) (by decide) (by decide) sy_refl) ?_
  refine sy_Fs (sy_ildn xc108_9 rfl rfl sy_refl) ?_
  refine sy_Fs (sy_bipush (v := 8) xc108_10 (by decide) (by decide) sy_refl) ?_
  refine sy_Fs (sx_ishl (z := (mo_shl (mo_or 0 (mo_and (mv_rd 32 T 0) 255)) 8)) xc108_12 rfl) ?_
  refine sy_Fs (sy_aldn xc108_13 rfl rfl sy_refl) ?_
  refine sy_Fs (sy_ildn xc108_14 rfl rfl sy_refl) ?_
  refine sy_Fs (sy_ildn xc108_15 rfl rfl sy_refl) ?_
  refine sy_Fs (sx_iadd (z := 1) xc108_16 (by decide)) ?_
  refine sy_Fs (sx_bal (z := (mv_rd 32 T 1)) xc108_17 (wh_at hw 0 rfl) (by omega) hq rfl) ?_
  refine sy_Fs (sy_sipush (v := 255) xc108_18 (by decide) (by decide) sy_refl) ?_
  refine sy_Fs (sx_iand (z := (mo_and (mv_rd 32 T 1) 255)) xc108_21 rfl) ?_
  refine sy_Fs (sx_ior (z := (mo_or (mo_shl (mo_or 0 (mo_and (mv_rd 32 T 0) 255)) 8) (mo_and (mv_rd 32 T 1) 255))) xc108_22 rfl) ?_
  refine sy_Fs (sx_istn (j := 2) (ls' := [(2, (fun _ => p) 0, 0), (0, 0, 0), (0, (mo_or (mo_shl (mo_or 0 (mo_and (mv_rd 32 T 0) 255)) 8) (mo_and (mv_rd 32 T 1) 255)), 0), (0, 1, 0)]) xc108_23 rfl rfl (sy_ok0 (by first | decide | assumption | omega | exact mo_rd_lt _ _ | exact mo_add_lt _ _ | exact mo_sub_lt _ _ | exact mo_mul_lt _ _ | exact mo_shl_lt _ _ | exact mo_ushr_lt _ _ | exact mo_or_lt (by decide) (mo_and_lt (mo_rd_lt _ _)) | exact mo_or_lt (mo_shl_lt _ _) (mo_and_lt (mo_rd_lt _ _)))) (by rw [xl108]; rfl) rfl rfl) ?_
  refine sy_Fs (sx_iinc (c := 1) (z := 2) (ls' := [(2, (fun _ => p) 0, 0), (0, 0, 0), (0, (mo_or (mo_shl (mo_or 0 (mo_and (mv_rd 32 T 0) 255)) 8) (mo_and (mv_rd 32 T 1) 255)), 0), (0, 2, 0)]) xc108_24 rfl (by decide) (by rw [xl108]; rfl) rfl (by decide) rfl) ?_
  refine sy_Fs (sy_goto (pc' := 4) xc108_27 (by decide) (by decide) sy_refl) ?_
  refine sy_Fs (sy_ildn xc108_4 rfl rfl sy_refl) ?_
  refine sy_Fs (sy_iconst (v := 4) xc108_5 (by decide) sy_refl) ?_
  refine sy_Fs (sy_ge_f xc108_6 (by decide) (by decide) (by decide) sy_refl) ?_
  refine sy_Fs (sy_ildn xc108_9 rfl rfl sy_refl) ?_
  refine sy_Fs (sy_bipush (v := 8) xc108_10 (by decide) (by decide) sy_refl) ?_
  refine sy_Fs (sx_ishl (z := (mo_shl (mo_or (mo_shl (mo_or 0 (mo_and (mv_rd 32 T 0) 255)) 8) (mo_and (mv_rd 32 T 1) 255)) 8)) xc108_12 rfl) ?_
  refine sy_Fs (sy_aldn xc108_13 rfl rfl sy_refl) ?_
  refine sy_Fs (sy_ildn xc108_14 rfl rfl sy_refl) ?_
  refine sy_Fs (sy_ildn xc108_15 rfl rfl sy_refl) ?_
  refine sy_Fs (sx_iadd (z := 2) xc108_16 (by decide)) ?_
  refine sy_Fs (sx_bal (z := (mv_rd 32 T 2)) xc108_17 (wh_at hw 0 rfl) (by omega) hq rfl) ?_
  refine sy_Fs (sy_sipush (v := 255) xc108_18 (by decide) (by decide) sy_refl) ?_
  refine sy_Fs (sx_iand (z := (mo_and (mv_rd 32 T 2) 255)) xc108_21 rfl) ?_
  refine sy_Fs (sx_ior (z := (mo_or (mo_shl (mo_or (mo_shl (mo_or 0 (mo_and (mv_rd 32 T 0) 255)) 8) (mo_and (mv_rd 32 T 1) 255)) 8) (mo_and (mv_rd 32 T 2) 255))) xc108_22 rfl) ?_
  refine sy_Fs (sx_istn (j := 2) (ls' := [(2, (fun _ => p) 0, 0), (0, 0, 0), (0, (mo_or (mo_shl (mo_or (mo_shl (mo_or 0 (mo_and (mv_rd 32 T 0) 255)) 8) (mo_and (mv_rd 32 T 1) 255)) 8) (mo_and (mv_rd 32 T 2) 255)), 0), (0, 2, 0)]) xc108_23 rfl rfl (sy_ok0 (by first | decide | assumption | omega | exact mo_rd_lt _ _ | exact mo_add_lt _ _ | exact mo_sub_lt _ _ | exact mo_mul_lt _ _ | exact mo_shl_lt _ _ | exact mo_ushr_lt _ _ | exact mo_or_lt (by decide) (mo_and_lt (mo_rd_lt _ _)) | exact mo_or_lt (mo_shl_lt _ _) (mo_and_lt (mo_rd_lt _ _)))) (by rw [xl108]; rfl) rfl rfl) ?_
  refine sy_Fs (sx_iinc (c := 1) (z := 3) (ls' := [(2, (fun _ => p) 0, 0), (0, 0, 0), (0, (mo_or (mo_shl (mo_or (mo_shl (mo_or 0 (mo_and (mv_rd 32 T 0) 255)) 8) (mo_and (mv_rd 32 T 1) 255)) 8) (mo_and (mv_rd 32 T 2) 255)), 0), (0, 3, 0)]) xc108_24 rfl (by decide) (by rw [xl108]; rfl) rfl (by decide) rfl) ?_
  refine sy_Fs (sy_goto (pc' := 4) xc108_27 (by decide) (by decide) sy_refl) ?_
  refine sy_Fs (sy_ildn xc108_4 rfl rfl sy_refl) ?_
  refine sy_Fs (sy_iconst (v := 4) xc108_5 (by decide) sy_refl) ?_
  refine sy_Fs (sy_ge_f xc108_6 (by decide) (by decide) (by decide) sy_refl) ?_
  refine sy_Fs (sy_ildn xc108_9 rfl rfl sy_refl) ?_
  refine sy_Fs (sy_bipush (v := 8) xc108_10 (by decide) (by decide) sy_refl) ?_
  refine sy_Fs (sx_ishl (z := (mo_shl (mo_or (mo_shl (mo_or (mo_shl (mo_or 0 (mo_and (mv_rd 32 T 0) 255)) 8) (mo_and (mv_rd 32 T 1) 255)) 8) (mo_and (mv_rd 32 T 2) 255)) 8)) xc108_12 rfl) ?_
  refine sy_Fs (sy_aldn xc108_13 rfl rfl sy_refl) ?_
  refine sy_Fs (sy_ildn xc108_14 rfl rfl sy_refl) ?_
  refine sy_Fs (sy_ildn xc108_15 rfl rfl sy_refl) ?_
  refine sy_Fs (sx_iadd (z := 3) xc108_16 (by decide)) ?_
  refine sy_Fs (sx_bal (z := (mv_rd 32 T 3)) xc108_17 (wh_at hw 0 rfl) (by omega) hq rfl) ?_
  refine sy_Fs (sy_sipush (v := 255) xc108_18 (by decide) (by decide) sy_refl) ?_
  refine sy_Fs (sx_iand (z := (mo_and (mv_rd 32 T 3) 255)) xc108_21 rfl) ?_
  refine sy_Fs (sx_ior (z := (mo_or (mo_shl (mo_or (mo_shl (mo_or (mo_shl (mo_or 0 (mo_and (mv_rd 32 T 0) 255)) 8) (mo_and (mv_rd 32 T 1) 255)) 8) (mo_and (mv_rd 32 T 2) 255)) 8) (mo_and (mv_rd 32 T 3) 255))) xc108_22 rfl) ?_
  refine sy_Fs (sx_istn (j := 2) (ls' := [(2, (fun _ => p) 0, 0), (0, 0, 0), (0, (mo_or (mo_shl (mo_or (mo_shl (mo_or (mo_shl (mo_or 0 (mo_and (mv_rd 32 T 0) 255)) 8) (mo_and (mv_rd 32 T 1) 255)) 8) (mo_and (mv_rd 32 T 2) 255)) 8) (mo_and (mv_rd 32 T 3) 255)), 0), (0, 3, 0)]) xc108_23 rfl rfl (sy_ok0 (by first | decide | assumption | omega | exact mo_rd_lt _ _ | exact mo_add_lt _ _ | exact mo_sub_lt _ _ | exact mo_mul_lt _ _ | exact mo_shl_lt _ _ | exact mo_ushr_lt _ _ | exact mo_or_lt (by decide) (mo_and_lt (mo_rd_lt _ _)) | exact mo_or_lt (mo_shl_lt _ _) (mo_and_lt (mo_rd_lt _ _)))) (by rw [xl108]; rfl) rfl rfl) ?_
  refine sy_Fs (sx_iinc (c := 1) (z := 4) (ls' := [(2, (fun _ => p) 0, 0), (0, 0, 0), (0, (mo_or (mo_shl (mo_or (mo_shl (mo_or (mo_shl (mo_or 0 (mo_and (mv_rd 32 T 0) 255)) 8) (mo_and (mv_rd 32 T 1) 255)) 8) (mo_and (mv_rd 32 T 2) 255)) 8) (mo_and (mv_rd 32 T 3) 255)), 0), (0, 4, 0)]) xc108_24 rfl (by decide) (by rw [xl108]; rfl) rfl (by decide) rfl) ?_
  refine sy_Fs (sy_goto (pc' := 4) xc108_27 (by decide) (by decide) sy_refl) ?_
  refine sy_Fs (sy_ildn xc108_4 rfl rfl sy_refl) ?_
  refine sy_Fs (sy_iconst (v := 4) xc108_5 (by decide) sy_refl) ?_
  refine sy_Fs (sy_ge_t (pc' := 30) xc108_6 (by decide) (by decide) (by decide) (by decide) sy_refl) ?_
  refine sy_Fs (sy_ildn xc108_30 rfl rfl sy_refl) ?_
  exact sy_Fi xc108_31 xr108 rfl ⟨rfl, rfl⟩
end QH
section QS
variable {n : Nat} {pl : Nat → Nat} {w0 w : mv_T 10} {X0 Pc Wd Vv St Af Mi Hd Bi Bf Hg Tm Bo Wk Pn Bs Mt Pst Ppl Psz Bb Pid So Fn Fc Fl Fs Ou Ly No Bu th up lp sc ba : Nat}
theorem wq_pi (hw : wh 32 pl w0 w [(0, 0, 107, X0), (1, 1, 64, Pc), (1, 0, 64, mc_K), (1, 0, 64, Wd), (1, 0, 8, Vv), (1, 0, 8, St), (1, 0, 8, Af), (1, 1, 32, Mi), (1, 1, 4200, Hd), (1, 1, 1280, Bi), (1, 0, 40, Bf), (1, 0, 40, Hg), (1, 0, 40, Tm), (1, 0, 40, Bo), (1, 0, 40, Wk), (1, 0, 40, Pn), (1, 0, 40, Bs), (1, 1, 28, Mt), (1, 0, 160, Pst), (1, 0, 160, Ppl), (1, 0, 160, Psz), (1, 1, 76000, Bb), (1, 1, 5120, Pid), (1, 1, 600, So), (1, 0, 960, Fn), (1, 0, 40, Fc), (1, 1, 3200, Fl), (1, 0, 40, Fs), (1, 1, 32, Ou), (1, 1, 2400, Ly), (1, 0, 40, No), (1, 1, 20, Bu)]) (hX0 : fh X0 jQ [(0, th, 0), (2, pl 1, 0), (2, pl 2, 0), (2, pl 3, 0), (2, pl 4, 0), (2, pl 5, 0), (2, pl 6, 0), (2, pl 7, 0), (0, up, 0), (1, lp, 0), (2, pl 8, 0), (2, pl 9, 0), (2, pl 10, 0), (2, pl 11, 0), (2, pl 12, 0), (2, pl 13, 0), (2, pl 14, 0), (2, pl 15, 0), (2, pl 16, 0), (2, pl 17, 0), (2, pl 18, 0), (2, pl 19, 0), (2, pl 20, 0), (2, pl 21, 0), (2, pl 22, 0), (2, pl 23, 0), (2, pl 24, 0), (2, pl 25, 0), (2, pl 26, 0), (2, pl 27, 0), (2, pl 28, 0), (2, pl 29, 0), (2, pl 30, 0), (2, pl 31, 0), (0, 1, 0), (0, 0, 0), (0, sc, 0), (0, ba, 0), (0, 0, 0)])  : sy_D 116 n 0 0 [(2, pl 0, 0), (0, 1, 0), (0, 0, 0)] w (fun ret w' => ret = [(0, 4, 0)] ∧ w' = w) := by
  refine sy_Dof (us := []) (sy_oks_cons (sy_ok2 (wh_lt hw 0 (by first | decide | assumption))) (sy_oks_cons (sy_ok0 (by first | decide | assumption | omega | exact mo_rd_lt _ _ | exact mo_add_lt _ _ | exact mo_sub_lt _ _ | exact mo_mul_lt _ _ | exact mo_shl_lt _ _ | exact mo_ushr_lt _ _ | exact mo_or_lt (by decide) (mo_and_lt (mo_rd_lt _ _)) | exact mo_or_lt (mo_shl_lt _ _) (mo_and_lt (mo_rd_lt _ _)))) (sy_oks_cons (sy_ok0 (by first | decide | assumption | omega | exact mo_rd_lt _ _ | exact mo_add_lt _ _ | exact mo_sub_lt _ _ | exact mo_mul_lt _ _ | exact mo_shl_lt _ _ | exact mo_ushr_lt _ _ | exact mo_or_lt (by decide) (mo_and_lt (mo_rd_lt _ _)) | exact mo_or_lt (mo_shl_lt _ _) (mo_and_lt (mo_rd_lt _ _)))) sy_oks_nil))) rfl rfl ?_
  show sy_F 116 n 0 0 0 [(2, pl 0, 0), (0, 1, 0), (0, 0, 0)] [] w _
  refine sy_Fs (sy_iconst (v := 4) xc116_0 (by decide) sy_refl) ?_
  refine sy_Fs (sy_ildn xc116_1 rfl rfl sy_refl) ?_
  refine sy_Fs (sx_imul (z := 4) xc116_2 (by decide)) ?_
  refine sy_Fs (sy_ildn xc116_3 rfl rfl sy_refl) ?_
  refine sy_Fs (sx_iadd (z := 4) xc116_4 (by decide)) ?_
  exact sy_Fi xc116_5 xr116 rfl ⟨rfl, rfl⟩
theorem wq_pa (hw : wh 32 pl w0 w [(0, 0, 107, X0), (1, 1, 64, Pc), (1, 0, 64, mc_K), (1, 0, 64, Wd), (1, 0, 8, Vv), (1, 0, 8, St), (1, 0, 8, Af), (1, 1, 32, Mi), (1, 1, 4200, Hd), (1, 1, 1280, Bi), (1, 0, 40, Bf), (1, 0, 40, Hg), (1, 0, 40, Tm), (1, 0, 40, Bo), (1, 0, 40, Wk), (1, 0, 40, Pn), (1, 0, 40, Bs), (1, 1, 28, Mt), (1, 0, 160, Pst), (1, 0, 160, Ppl), (1, 0, 160, Psz), (1, 1, 76000, Bb), (1, 1, 5120, Pid), (1, 1, 600, So), (1, 0, 960, Fn), (1, 0, 40, Fc), (1, 1, 3200, Fl), (1, 0, 40, Fs), (1, 1, 32, Ou), (1, 1, 2400, Ly), (1, 0, 40, No), (1, 1, 20, Bu)]) (hX0 : fh X0 jQ [(0, th, 0), (2, pl 1, 0), (2, pl 2, 0), (2, pl 3, 0), (2, pl 4, 0), (2, pl 5, 0), (2, pl 6, 0), (2, pl 7, 0), (0, up, 0), (1, lp, 0), (2, pl 8, 0), (2, pl 9, 0), (2, pl 10, 0), (2, pl 11, 0), (2, pl 12, 0), (2, pl 13, 0), (2, pl 14, 0), (2, pl 15, 0), (2, pl 16, 0), (2, pl 17, 0), (2, pl 18, 0), (2, pl 19, 0), (2, pl 20, 0), (2, pl 21, 0), (2, pl 22, 0), (2, pl 23, 0), (2, pl 24, 0), (2, pl 25, 0), (2, pl 26, 0), (2, pl 27, 0), (2, pl 28, 0), (2, pl 29, 0), (2, pl 30, 0), (2, pl 31, 0), (0, 1, 0), (0, 0, 0), (0, sc, 0), (0, ba, 0), (0, 0, 0)]) (hps : mv_rd 32 Pst 4 = 0) : sy_D 115 n 1 22 [(2, pl 0, 0), (0, 1, 0), (0, 0, 0)] w (fun ret w' => ret = [(0, 1900, 0)] ∧ w' = w) := by
  refine sy_Dof (us := []) (sy_oks_cons (sy_ok2 (wh_lt hw 0 (by first | decide | assumption))) (sy_oks_cons (sy_ok0 (by first | decide | assumption | omega | exact mo_rd_lt _ _ | exact mo_add_lt _ _ | exact mo_sub_lt _ _ | exact mo_mul_lt _ _ | exact mo_shl_lt _ _ | exact mo_ushr_lt _ _ | exact mo_or_lt (by decide) (mo_and_lt (mo_rd_lt _ _)) | exact mo_or_lt (mo_shl_lt _ _) (mo_and_lt (mo_rd_lt _ _)))) (sy_oks_cons (sy_ok0 (by first | decide | assumption | omega | exact mo_rd_lt _ _ | exact mo_add_lt _ _ | exact mo_sub_lt _ _ | exact mo_mul_lt _ _ | exact mo_shl_lt _ _ | exact mo_ushr_lt _ _ | exact mo_or_lt (by decide) (mo_and_lt (mo_rd_lt _ _)) | exact mo_or_lt (mo_shl_lt _ _) (mo_and_lt (mo_rd_lt _ _)))) sy_oks_nil))) rfl rfl ?_
  show sy_F 115 n 1 22 0 [(2, pl 0, 0), (0, 1, 0), (0, 0, 0)] [] w _
  refine sy_Fs (sy_sipush (v := 1900) xc115_0 (by decide) (by decide) sy_refl) ?_
  refine sy_Fs (sy_ildn xc115_3 rfl rfl sy_refl) ?_
  refine sy_Fs (sx_imul (z := 1900) xc115_4 (by decide)) ?_
  refine sy_Fs (sy_aldn xc115_5 rfl rfl sy_refl) ?_
  refine sy_Fs (sy_gf xc115_6 xf115_364 rfl (wh_at hw 0 rfl) rfl (fh_at hX0 20 rfl rfl) sy_refl) ?_
  refine sy_Fs (sy_aldn xc115_9 rfl rfl sy_refl) ?_
  refine sy_Fs (sy_ildn xc115_10 rfl rfl sy_refl) ?_
  refine sy_Fs (sy_ildn xc115_11 rfl rfl sy_refl) ?_
  refine sy_Fs (sy_callG (kd := 3) (as := [(2, pl 0, 0), (0, 1, 0), (0, 0, 0)]) (S0 := [(2, pl 18, 0), (0, 1900, 0)]) (ret := [(0, 4, 0)]) xc115_12 (sy_calV (as := [(2, pl 0, 0), (0, 1, 0), (0, 0, 0)]) (S0 := [(2, pl 18, 0), (0, 1900, 0)]) xm115_585 rfl rfl) rfl rfl (sy_rcvm xi116 (wh_at hw 0 rfl)) rfl (sy_oka (sy_oks_cons (sy_ok2 (wh_lt hw 0 (by first | decide | assumption))) (sy_oks_cons (sy_ok0 (by first | decide | assumption | omega | exact mo_rd_lt _ _ | exact mo_add_lt _ _ | exact mo_sub_lt _ _ | exact mo_mul_lt _ _ | exact mo_shl_lt _ _ | exact mo_ushr_lt _ _ | exact mo_or_lt (by decide) (mo_and_lt (mo_rd_lt _ _)) | exact mo_or_lt (mo_shl_lt _ _) (mo_and_lt (mo_rd_lt _ _)))) (sy_oks_cons (sy_ok0 (by first | decide | assumption | omega | exact mo_rd_lt _ _ | exact mo_add_lt _ _ | exact mo_sub_lt _ _ | exact mo_mul_lt _ _ | exact mo_shl_lt _ _ | exact mo_ushr_lt _ _ | exact mo_or_lt (by decide) (mo_and_lt (mo_rd_lt _ _)) | exact mo_or_lt (mo_shl_lt _ _) (mo_and_lt (mo_rd_lt _ _)))) sy_oks_nil))) rfl xl116) (sy_Cw (wq_pi (n := n) hw hX0)) (by decide) (by rw [xl116]; decide) sy_refl) ?_
  refine sy_Fs (sx_ial (z := 0) xc115_15 (wh_at hw 18 rfl) (by decide) (by decide) hps) ?_
  refine sy_Fs (sx_iadd (z := 1900) xc115_16 (by decide)) ?_
  exact sy_Fi xc115_17 xr115 rfl ⟨rfl, rfl⟩
theorem wq_oa (hw : wh 32 pl w0 w [(0, 0, 107, X0), (1, 1, 64, Pc), (1, 0, 64, mc_K), (1, 0, 64, Wd), (1, 0, 8, Vv), (1, 0, 8, St), (1, 0, 8, Af), (1, 1, 32, Mi), (1, 1, 4200, Hd), (1, 1, 1280, Bi), (1, 0, 40, Bf), (1, 0, 40, Hg), (1, 0, 40, Tm), (1, 0, 40, Bo), (1, 0, 40, Wk), (1, 0, 40, Pn), (1, 0, 40, Bs), (1, 1, 28, Mt), (1, 0, 160, Pst), (1, 0, 160, Ppl), (1, 0, 160, Psz), (1, 1, 76000, Bb), (1, 1, 5120, Pid), (1, 1, 600, So), (1, 0, 960, Fn), (1, 0, 40, Fc), (1, 1, 3200, Fl), (1, 0, 40, Fs), (1, 1, 32, Ou), (1, 1, 2400, Ly), (1, 0, 40, No), (1, 1, 20, Bu)]) (hX0 : fh X0 jQ [(0, th, 0), (2, pl 1, 0), (2, pl 2, 0), (2, pl 3, 0), (2, pl 4, 0), (2, pl 5, 0), (2, pl 6, 0), (2, pl 7, 0), (0, up, 0), (1, lp, 0), (2, pl 8, 0), (2, pl 9, 0), (2, pl 10, 0), (2, pl 11, 0), (2, pl 12, 0), (2, pl 13, 0), (2, pl 14, 0), (2, pl 15, 0), (2, pl 16, 0), (2, pl 17, 0), (2, pl 18, 0), (2, pl 19, 0), (2, pl 20, 0), (2, pl 21, 0), (2, pl 22, 0), (2, pl 23, 0), (2, pl 24, 0), (2, pl 25, 0), (2, pl 26, 0), (2, pl 27, 0), (2, pl 28, 0), (2, pl 29, 0), (2, pl 30, 0), (2, pl 31, 0), (0, 1, 0), (0, 0, 0), (0, sc, 0), (0, ba, 0), (0, 0, 0)]) (hb0 : mv_rd 32 Bb 1900 = 0) (hb3 : mv_rd 32 Bb 1903 = 1) : sy_D 119 n 0 0 [(2, pl 21, 0), (0, 1900, 0)] w (fun ret w' => ret = [(0, 1903, 0)] ∧ w' = w) := by
  refine sy_Dof (us := []) (sy_oks_cons (sy_ok2 (wh_lt hw 21 (by first | decide | assumption))) (sy_oks_cons (sy_ok0 (by first | decide | assumption | omega | exact mo_rd_lt _ _ | exact mo_add_lt _ _ | exact mo_sub_lt _ _ | exact mo_mul_lt _ _ | exact mo_shl_lt _ _ | exact mo_ushr_lt _ _ | exact mo_or_lt (by decide) (mo_and_lt (mo_rd_lt _ _)) | exact mo_or_lt (mo_shl_lt _ _) (mo_and_lt (mo_rd_lt _ _)))) sy_oks_nil)) rfl rfl ?_
  show sy_F 119 n 0 0 0 [(2, pl 21, 0), (0, 1900, 0)] [] w _
  refine sy_Fs (sy_aldn xc119_0 rfl rfl sy_refl) ?_
  refine sy_Fs (sy_ildn xc119_1 rfl rfl sy_refl) ?_
  refine sy_Fs (sx_bal (z := 0) xc119_2 (wh_at hw 21 rfl) (by decide) (by decide) hb0) ?_
  refine sy_Fs (sy_ifne_f xc119_3 (by decide) (by decide) sy_refl) ?_
  refine sy_Fs (sy_ildn xc119_6 rfl rfl sy_refl) ?_
  refine sy_Fs (sy_iconst (v := 3) xc119_7 (by decide) sy_refl) ?_
  refine sy_Fs (sx_iadd (z := 1903) xc119_8 (by decide)) ?_
  refine sy_Fs (sy_goto (pc' := 22) xc119_9 (by decide) (by decide) sy_refl) ?_
  exact sy_Fi xc119_22 xr119 rfl ⟨rfl, rfl⟩
theorem wq_os (hw : wh 32 pl w0 w [(0, 0, 107, X0), (1, 1, 64, Pc), (1, 0, 64, mc_K), (1, 0, 64, Wd), (1, 0, 8, Vv), (1, 0, 8, St), (1, 0, 8, Af), (1, 1, 32, Mi), (1, 1, 4200, Hd), (1, 1, 1280, Bi), (1, 0, 40, Bf), (1, 0, 40, Hg), (1, 0, 40, Tm), (1, 0, 40, Bo), (1, 0, 40, Wk), (1, 0, 40, Pn), (1, 0, 40, Bs), (1, 1, 28, Mt), (1, 0, 160, Pst), (1, 0, 160, Ppl), (1, 0, 160, Psz), (1, 1, 76000, Bb), (1, 1, 5120, Pid), (1, 1, 600, So), (1, 0, 960, Fn), (1, 0, 40, Fc), (1, 1, 3200, Fl), (1, 0, 40, Fs), (1, 1, 32, Ou), (1, 1, 2400, Ly), (1, 0, 40, No), (1, 1, 20, Bu)]) (hX0 : fh X0 jQ [(0, th, 0), (2, pl 1, 0), (2, pl 2, 0), (2, pl 3, 0), (2, pl 4, 0), (2, pl 5, 0), (2, pl 6, 0), (2, pl 7, 0), (0, up, 0), (1, lp, 0), (2, pl 8, 0), (2, pl 9, 0), (2, pl 10, 0), (2, pl 11, 0), (2, pl 12, 0), (2, pl 13, 0), (2, pl 14, 0), (2, pl 15, 0), (2, pl 16, 0), (2, pl 17, 0), (2, pl 18, 0), (2, pl 19, 0), (2, pl 20, 0), (2, pl 21, 0), (2, pl 22, 0), (2, pl 23, 0), (2, pl 24, 0), (2, pl 25, 0), (2, pl 26, 0), (2, pl 27, 0), (2, pl 28, 0), (2, pl 29, 0), (2, pl 30, 0), (2, pl 31, 0), (0, 1, 0), (0, 0, 0), (0, sc, 0), (0, ba, 0), (0, 0, 0)]) (hb0 : mv_rd 32 Bb 1900 = 0) (hb3 : mv_rd 32 Bb 1903 = 1) : sy_D 118 n 1 21 [(2, pl 21, 0), (0, 1900, 0)] w (fun ret w' => ret = [(0, 1, 0)] ∧ w' = w) := by
  refine sy_Dof (us := []) (sy_oks_cons (sy_ok2 (wh_lt hw 21 (by first | decide | assumption))) (sy_oks_cons (sy_ok0 (by first | decide | assumption | omega | exact mo_rd_lt _ _ | exact mo_add_lt _ _ | exact mo_sub_lt _ _ | exact mo_mul_lt _ _ | exact mo_shl_lt _ _ | exact mo_ushr_lt _ _ | exact mo_or_lt (by decide) (mo_and_lt (mo_rd_lt _ _)) | exact mo_or_lt (mo_shl_lt _ _) (mo_and_lt (mo_rd_lt _ _)))) sy_oks_nil)) rfl rfl ?_
  show sy_F 118 n 1 21 0 [(2, pl 21, 0), (0, 1900, 0)] [] w _
  refine sy_Fs (sy_aldn xc118_0 rfl rfl sy_refl) ?_
  refine sy_Fs (sy_aldn xc118_1 rfl rfl sy_refl) ?_
  refine sy_Fs (sy_ildn xc118_2 rfl rfl sy_refl) ?_
  refine sy_Fs (sy_callG (kd := 1) (as := [(2, pl 21, 0), (0, 1900, 0)]) (S0 := [(2, pl 21, 0)]) (ret := [(0, 1903, 0)]) xc118_3 (sy_calS (as := [(2, pl 21, 0), (0, 1900, 0)]) (S0 := [(2, pl 21, 0)]) xm118_254 rfl rfl) rfl rfl rfl rfl (sy_oka (sy_oks_cons (sy_ok2 (wh_lt hw 21 (by first | decide | assumption))) (sy_oks_cons (sy_ok0 (by first | decide | assumption | omega | exact mo_rd_lt _ _ | exact mo_add_lt _ _ | exact mo_sub_lt _ _ | exact mo_mul_lt _ _ | exact mo_shl_lt _ _ | exact mo_ushr_lt _ _ | exact mo_or_lt (by decide) (mo_and_lt (mo_rd_lt _ _)) | exact mo_or_lt (mo_shl_lt _ _) (mo_and_lt (mo_rd_lt _ _)))) sy_oks_nil)) rfl xl119) (sy_Cw (wq_oa (n := n) hw hX0 hb0 hb3)) (by decide) (by rw [xl119]; decide) sy_refl) ?_
  refine sy_Fs (sx_bal (z := 1) xc118_6 (wh_at hw 21 rfl) (by decide) (by decide) hb3) ?_
  exact sy_Fi xc118_7 xr118 rfl ⟨rfl, rfl⟩
theorem wq_ot (hw : wh 32 pl w0 w [(0, 0, 107, X0), (1, 1, 64, Pc), (1, 0, 64, mc_K), (1, 0, 64, Wd), (1, 0, 8, Vv), (1, 0, 8, St), (1, 0, 8, Af), (1, 1, 32, Mi), (1, 1, 4200, Hd), (1, 1, 1280, Bi), (1, 0, 40, Bf), (1, 0, 40, Hg), (1, 0, 40, Tm), (1, 0, 40, Bo), (1, 0, 40, Wk), (1, 0, 40, Pn), (1, 0, 40, Bs), (1, 1, 28, Mt), (1, 0, 160, Pst), (1, 0, 160, Ppl), (1, 0, 160, Psz), (1, 1, 76000, Bb), (1, 1, 5120, Pid), (1, 1, 600, So), (1, 0, 960, Fn), (1, 0, 40, Fc), (1, 1, 3200, Fl), (1, 0, 40, Fs), (1, 1, 32, Ou), (1, 1, 2400, Ly), (1, 0, 40, No), (1, 1, 20, Bu)]) (hX0 : fh X0 jQ [(0, th, 0), (2, pl 1, 0), (2, pl 2, 0), (2, pl 3, 0), (2, pl 4, 0), (2, pl 5, 0), (2, pl 6, 0), (2, pl 7, 0), (0, up, 0), (1, lp, 0), (2, pl 8, 0), (2, pl 9, 0), (2, pl 10, 0), (2, pl 11, 0), (2, pl 12, 0), (2, pl 13, 0), (2, pl 14, 0), (2, pl 15, 0), (2, pl 16, 0), (2, pl 17, 0), (2, pl 18, 0), (2, pl 19, 0), (2, pl 20, 0), (2, pl 21, 0), (2, pl 22, 0), (2, pl 23, 0), (2, pl 24, 0), (2, pl 25, 0), (2, pl 26, 0), (2, pl 27, 0), (2, pl 28, 0), (2, pl 29, 0), (2, pl 30, 0), (2, pl 31, 0), (0, 1, 0), (0, 0, 0), (0, sc, 0), (0, ba, 0), (0, 0, 0)]) (hb0 : mv_rd 32 Bb 1900 = 0) (hb3 : mv_rd 32 Bb 1903 = 1) : sy_D 120 n 1 21 [(2, pl 21, 0), (0, 1900, 0), (0, 0, 0)] w (fun ret w' => ret = [(0, 1904, 0)] ∧ w' = w) := by
  refine sy_Dof (us := []) (sy_oks_cons (sy_ok2 (wh_lt hw 21 (by first | decide | assumption))) (sy_oks_cons (sy_ok0 (by first | decide | assumption | omega | exact mo_rd_lt _ _ | exact mo_add_lt _ _ | exact mo_sub_lt _ _ | exact mo_mul_lt _ _ | exact mo_shl_lt _ _ | exact mo_ushr_lt _ _ | exact mo_or_lt (by decide) (mo_and_lt (mo_rd_lt _ _)) | exact mo_or_lt (mo_shl_lt _ _) (mo_and_lt (mo_rd_lt _ _)))) (sy_oks_cons (sy_ok0 (by first | decide | assumption | omega | exact mo_rd_lt _ _ | exact mo_add_lt _ _ | exact mo_sub_lt _ _ | exact mo_mul_lt _ _ | exact mo_shl_lt _ _ | exact mo_ushr_lt _ _ | exact mo_or_lt (by decide) (mo_and_lt (mo_rd_lt _ _)) | exact mo_or_lt (mo_shl_lt _ _) (mo_and_lt (mo_rd_lt _ _)))) sy_oks_nil))) rfl rfl ?_
  show sy_F 120 n 1 21 0 [(2, pl 21, 0), (0, 1900, 0), (0, 0, 0)] [] w _
  refine sy_Fs (sy_aldn xc120_0 rfl rfl sy_refl) ?_
  refine sy_Fs (sy_ildn xc120_1 rfl rfl sy_refl) ?_
  refine sy_Fs (sy_callG (kd := 1) (as := [(2, pl 21, 0), (0, 1900, 0)]) (S0 := []) (ret := [(0, 1903, 0)]) xc120_2 (sy_calS (as := [(2, pl 21, 0), (0, 1900, 0)]) (S0 := []) xm120_254 rfl rfl) rfl rfl rfl rfl (sy_oka (sy_oks_cons (sy_ok2 (wh_lt hw 21 (by first | decide | assumption))) (sy_oks_cons (sy_ok0 (by first | decide | assumption | omega | exact mo_rd_lt _ _ | exact mo_add_lt _ _ | exact mo_sub_lt _ _ | exact mo_mul_lt _ _ | exact mo_shl_lt _ _ | exact mo_ushr_lt _ _ | exact mo_or_lt (by decide) (mo_and_lt (mo_rd_lt _ _)) | exact mo_or_lt (mo_shl_lt _ _) (mo_and_lt (mo_rd_lt _ _)))) sy_oks_nil)) rfl xl119) (sy_Cw (wq_oa (n := n) hw hX0 hb0 hb3)) (by decide) (by rw [xl119]; decide) sy_refl) ?_
  refine sy_Fs (sy_iconst (v := 1) xc120_5 (by decide) sy_refl) ?_
  refine sy_Fs (sx_iadd (z := 1904) xc120_6 (by decide)) ?_
  refine sy_Fs (sy_bipush (v := 24) xc120_7 (by decide) (by decide) sy_refl) ?_
  refine sy_Fs (sy_ildn xc120_9 rfl rfl sy_refl) ?_
  refine sy_Fs (sx_imul (z := 0) xc120_10 (by decide)) ?_
  refine sy_Fs (sx_iadd (z := 1904) xc120_11 (by decide)) ?_
  exact sy_Fi xc120_12 xr120 rfl ⟨rfl, rfl⟩
theorem wq_in (hw : wh 32 pl w0 w [(0, 0, 107, X0), (1, 1, 64, Pc), (1, 0, 64, mc_K), (1, 0, 64, Wd), (1, 0, 8, Vv), (1, 0, 8, St), (1, 0, 8, Af), (1, 1, 32, Mi), (1, 1, 4200, Hd), (1, 1, 1280, Bi), (1, 0, 40, Bf), (1, 0, 40, Hg), (1, 0, 40, Tm), (1, 0, 40, Bo), (1, 0, 40, Wk), (1, 0, 40, Pn), (1, 0, 40, Bs), (1, 1, 28, Mt), (1, 0, 160, Pst), (1, 0, 160, Ppl), (1, 0, 160, Psz), (1, 1, 76000, Bb), (1, 1, 5120, Pid), (1, 1, 600, So), (1, 0, 960, Fn), (1, 0, 40, Fc), (1, 1, 3200, Fl), (1, 0, 40, Fs), (1, 1, 32, Ou), (1, 1, 2400, Ly), (1, 0, 40, No), (1, 1, 20, Bu)]) (hX0 : fh X0 jQ [(0, th, 0), (2, pl 1, 0), (2, pl 2, 0), (2, pl 3, 0), (2, pl 4, 0), (2, pl 5, 0), (2, pl 6, 0), (2, pl 7, 0), (0, up, 0), (1, lp, 0), (2, pl 8, 0), (2, pl 9, 0), (2, pl 10, 0), (2, pl 11, 0), (2, pl 12, 0), (2, pl 13, 0), (2, pl 14, 0), (2, pl 15, 0), (2, pl 16, 0), (2, pl 17, 0), (2, pl 18, 0), (2, pl 19, 0), (2, pl 20, 0), (2, pl 21, 0), (2, pl 22, 0), (2, pl 23, 0), (2, pl 24, 0), (2, pl 25, 0), (2, pl 26, 0), (2, pl 27, 0), (2, pl 28, 0), (2, pl 29, 0), (2, pl 30, 0), (2, pl 31, 0), (0, 1, 0), (0, 0, 0), (0, sc, 0), (0, ba, 0), (0, 0, 0)]) (hb0 : mv_rd 32 Bb 1900 = 0) (hb3 : mv_rd 32 Bb 1903 = 1) : sy_D 117 n 0 0 [(2, pl 21, 0), (0, 1900, 0)] w (fun ret w' => ret = [(0, 0, 0)] ∧ w' = w) := by
  refine sy_Dof (us := []) (sy_oks_cons (sy_ok2 (wh_lt hw 21 (by first | decide | assumption))) (sy_oks_cons (sy_ok0 (by first | decide | assumption | omega | exact mo_rd_lt _ _ | exact mo_add_lt _ _ | exact mo_sub_lt _ _ | exact mo_mul_lt _ _ | exact mo_shl_lt _ _ | exact mo_ushr_lt _ _ | exact mo_or_lt (by decide) (mo_and_lt (mo_rd_lt _ _)) | exact mo_or_lt (mo_shl_lt _ _) (mo_and_lt (mo_rd_lt _ _)))) sy_oks_nil)) rfl rfl ?_
  show sy_F 117 n 0 0 0 [(2, pl 21, 0), (0, 1900, 0)] [] w _
  refine sy_Fs (sy_aldn xc117_0 rfl rfl sy_refl) ?_
  refine sy_Fs (sy_ildn xc117_1 rfl rfl sy_refl) ?_
  refine sy_Fs (sx_bal (z := 0) xc117_2 (wh_at hw 21 rfl) (by decide) (by decide) hb0) ?_
  exact sy_Fi xc117_3 xr117 rfl ⟨rfl, rfl⟩
theorem wq_add (hw : wh 32 pl w0 w [(0, 0, 107, X0), (1, 1, 64, Pc), (1, 0, 64, mc_K), (1, 0, 64, Wd), (1, 0, 8, Vv), (1, 0, 8, St), (1, 0, 8, Af), (1, 1, 32, Mi), (1, 1, 4200, Hd), (1, 1, 1280, Bi), (1, 0, 40, Bf), (1, 0, 40, Hg), (1, 0, 40, Tm), (1, 0, 40, Bo), (1, 0, 40, Wk), (1, 0, 40, Pn), (1, 0, 40, Bs), (1, 1, 28, Mt), (1, 0, 160, Pst), (1, 0, 160, Ppl), (1, 0, 160, Psz), (1, 1, 76000, Bb), (1, 1, 5120, Pid), (1, 1, 600, So), (1, 0, 960, Fn), (1, 0, 40, Fc), (1, 1, 3200, Fl), (1, 0, 40, Fs), (1, 1, 32, Ou), (1, 1, 2400, Ly), (1, 0, 40, No), (1, 1, 20, Bu)]) (hX0 : fh X0 jQ [(0, th, 0), (2, pl 1, 0), (2, pl 2, 0), (2, pl 3, 0), (2, pl 4, 0), (2, pl 5, 0), (2, pl 6, 0), (2, pl 7, 0), (0, up, 0), (1, lp, 0), (2, pl 8, 0), (2, pl 9, 0), (2, pl 10, 0), (2, pl 11, 0), (2, pl 12, 0), (2, pl 13, 0), (2, pl 14, 0), (2, pl 15, 0), (2, pl 16, 0), (2, pl 17, 0), (2, pl 18, 0), (2, pl 19, 0), (2, pl 20, 0), (2, pl 21, 0), (2, pl 22, 0), (2, pl 23, 0), (2, pl 24, 0), (2, pl 25, 0), (2, pl 26, 0), (2, pl 27, 0), (2, pl 28, 0), (2, pl 29, 0), (2, pl 30, 0), (2, pl 31, 0), (0, 1, 0), (0, 0, 0), (0, 0, 0), (0, ba, 0), (0, 0, 0)])  : sy_D 129 n 1 25 [(2, pl 0, 0), (0, 1908, 0)] w (fun ret w' => ret = [] ∧ ∃ Y0 : Nat, wh 32 pl w0 w' [(0, 0, 107, Y0), (1, 1, 64, Pc), (1, 0, 64, mc_K), (1, 0, 64, Wd), (1, 0, 8, Vv), (1, 0, 8, St), (1, 0, 8, Af), (1, 1, 32, Mi), (1, 1, 4200, Hd), (1, 1, 1280, Bi), (1, 0, 40, Bf), (1, 0, 40, Hg), (1, 0, 40, Tm), (1, 0, 40, Bo), (1, 0, 40, Wk), (1, 0, 40, Pn), (1, 0, 40, Bs), (1, 1, 28, Mt), (1, 0, 160, Pst), (1, 0, 160, Ppl), (1, 0, 160, Psz), (1, 1, 76000, Bb), (1, 1, 5120, Pid), (1, 1, 600, (mo_T So 0 Bb 1908 20)), (1, 0, 960, Fn), (1, 0, 40, Fc), (1, 1, 3200, Fl), (1, 0, 40, Fs), (1, 1, 32, Ou), (1, 1, 2400, Ly), (1, 0, 40, No), (1, 1, 20, Bu)] ∧ fh Y0 jQ [(0, th, 0), (2, pl 1, 0), (2, pl 2, 0), (2, pl 3, 0), (2, pl 4, 0), (2, pl 5, 0), (2, pl 6, 0), (2, pl 7, 0), (0, up, 0), (1, lp, 0), (2, pl 8, 0), (2, pl 9, 0), (2, pl 10, 0), (2, pl 11, 0), (2, pl 12, 0), (2, pl 13, 0), (2, pl 14, 0), (2, pl 15, 0), (2, pl 16, 0), (2, pl 17, 0), (2, pl 18, 0), (2, pl 19, 0), (2, pl 20, 0), (2, pl 21, 0), (2, pl 22, 0), (2, pl 23, 0), (2, pl 24, 0), (2, pl 25, 0), (2, pl 26, 0), (2, pl 27, 0), (2, pl 28, 0), (2, pl 29, 0), (2, pl 30, 0), (2, pl 31, 0), (0, 1, 0), (0, 0, 0), (0, 1, 0), (0, ba, 0), (0, 0, 0)]) := by
  refine sy_Dof (us := [(255, 0, 0)]) (sy_oks_cons (sy_ok2 (wh_lt hw 0 (by first | decide | assumption))) (sy_oks_cons (sy_ok0 (by first | decide | assumption | omega | exact mo_rd_lt _ _ | exact mo_add_lt _ _ | exact mo_sub_lt _ _ | exact mo_mul_lt _ _ | exact mo_shl_lt _ _ | exact mo_ushr_lt _ _ | exact mo_or_lt (by decide) (mo_and_lt (mo_rd_lt _ _)) | exact mo_or_lt (mo_shl_lt _ _) (mo_and_lt (mo_rd_lt _ _)))) sy_oks_nil)) rfl rfl ?_
  show sy_F 129 n 1 25 0 [(2, pl 0, 0), (0, 1908, 0), (255, 0, 0)] [] w _
  refine sy_Fs (sy_iconst (v := 0) xc129_0 (by decide) sy_refl) ?_
  refine sy_Fs (sx_istn (j := 2) (ls' := [(2, pl 0, 0), (0, 1908, 0), (0, 0, 0)]) xc129_1 rfl rfl (sy_ok0 (by first | decide | assumption | omega | exact mo_rd_lt _ _ | exact mo_add_lt _ _ | exact mo_sub_lt _ _ | exact mo_mul_lt _ _ | exact mo_shl_lt _ _ | exact mo_ushr_lt _ _ | exact mo_or_lt (by decide) (mo_and_lt (mo_rd_lt _ _)) | exact mo_or_lt (mo_shl_lt _ _) (mo_and_lt (mo_rd_lt _ _)))) (by rw [xl129]; rfl) rfl rfl) ?_
  refine sy_Fs (sy_ildn xc129_2 rfl rfl sy_refl) ?_
  refine sy_Fs (sy_aldn xc129_3 rfl rfl sy_refl) ?_
  refine sy_Fs (sy_gf xc129_4 xf129_616 rfl (wh_at hw 0 rfl) rfl (fh_at hX0 36 rfl rfl) sy_refl) ?_
  refine sy_Fs (sy_ge_t (pc' := 38) xc129_7 (by decide) (by decide) (by decide) (by decide) sy_refl) ?_
  refine sy_Fs (sy_aldn xc129_38 rfl rfl sy_refl) ?_
  refine sy_Fs (sy_gf xc129_39 xf129_361 rfl (wh_at hw 0 rfl) rfl (fh_at hX0 23 rfl rfl) sy_refl) ?_
  refine sy_Fs (sy_ildn xc129_42 rfl rfl sy_refl) ?_
  refine sy_Fs (sy_aldn xc129_43 rfl rfl sy_refl) ?_
  refine sy_Fs (sy_gf xc129_44 xf129_439 rfl (wh_at hw 0 rfl) rfl (fh_at hX0 25 rfl rfl) sy_refl) ?_
  refine sy_Fs (sy_bipush (v := 20) xc129_47 (by decide) (by decide) sy_refl) ?_
  refine sy_Fs (sy_aldn xc129_49 rfl rfl sy_refl) ?_
  refine sy_Fs (sy_gf xc129_50 xf129_616 rfl (wh_at hw 0 rfl) rfl (fh_at hX0 36 rfl rfl) sy_refl) ?_
  refine sy_Fs (sx_imul (z := 0) xc129_53 (by decide)) ?_
  refine sy_Fs (sy_bipush (v := 20) xc129_54 (by decide) (by decide) sy_refl) ?_
  refine sy_Fw (i := 23) (x := (1, 1, 600, (mo_T So 0 Bb 1908 20))) hw (by decide) (sy_callG (kd := 1) (as := [(2, pl 21, 0), (0, 1908, 0), (2, pl 23, 0), (0, 0, 0), (0, 20, 0)]) (S0 := []) (ret := []) xc129_56 (sy_calS (as := [(2, pl 21, 0), (0, 1908, 0), (2, pl 23, 0), (0, 0, 0), (0, 20, 0)]) (S0 := []) xm129_184 rfl rfl) rfl rfl rfl rfl (sy_oka (sy_oks_cons (sy_ok2 (wh_lt hw 21 (by first | decide | assumption))) (sy_oks_cons (sy_ok0 (by first | decide | assumption | omega | exact mo_rd_lt _ _ | exact mo_add_lt _ _ | exact mo_sub_lt _ _ | exact mo_mul_lt _ _ | exact mo_shl_lt _ _ | exact mo_ushr_lt _ _ | exact mo_or_lt (by decide) (mo_and_lt (mo_rd_lt _ _)) | exact mo_or_lt (mo_shl_lt _ _) (mo_and_lt (mo_rd_lt _ _)))) (sy_oks_cons (sy_ok2 (wh_lt hw 23 (by first | decide | assumption))) (sy_oks_cons (sy_ok0 (by first | decide | assumption | omega | exact mo_rd_lt _ _ | exact mo_add_lt _ _ | exact mo_sub_lt _ _ | exact mo_mul_lt _ _ | exact mo_shl_lt _ _ | exact mo_ushr_lt _ _ | exact mo_or_lt (by decide) (mo_and_lt (mo_rd_lt _ _)) | exact mo_or_lt (mo_shl_lt _ _) (mo_and_lt (mo_rd_lt _ _)))) (sy_oks_cons (sy_ok0 (by first | decide | assumption | omega | exact mo_rd_lt _ _ | exact mo_add_lt _ _ | exact mo_sub_lt _ _ | exact mo_mul_lt _ _ | exact mo_shl_lt _ _ | exact mo_ushr_lt _ _ | exact mo_or_lt (by decide) (mo_and_lt (mo_rd_lt _ _)) | exact mo_or_lt (mo_shl_lt _ _) (mo_and_lt (mo_rd_lt _ _)))) sy_oks_nil))))) rfl xl110) (wr_move (wh_ne hw 21 23 (by decide) (by decide) (by decide)) (wh_lt hw 21 (by first | decide | assumption)) (wh_lt hw 23 (by first | decide | assumption)) (wh_at hw 21 rfl) (wh_at hw 23 rfl) (by first | decide | assumption | omega) (by first | decide | assumption | omega) (by first | decide | assumption | omega) (by first | decide | assumption | omega)) (by decide) (by rw [xl110]; decide) sy_refl) ?_
  intro w hw
  simp only [List.set_cons_zero, List.set_cons_succ] at hw
  refine sy_Fs (sy_aldn xc129_59 rfl rfl sy_refl) ?_
  refine sy_Fs (sy_dup xc129_60 rfl sy_refl) ?_
  refine sy_Fs (sy_gf xc129_61 xf129_616 rfl (wh_at hw 0 rfl) rfl (fh_at hX0 36 rfl rfl) sy_refl) ?_
  refine sy_Fs (sy_iconst (v := 1) xc129_64 (by decide) sy_refl) ?_
  refine sy_Fs (sx_iadd (z := 1) xc129_65 (by decide)) ?_
  refine sy_Ff (i := 0) (q := 36) (v := (0, 1, 0)) hw hX0 (by decide) (by decide) rfl (sy_ok0 (by first | decide | assumption | omega | exact mo_rd_lt _ _ | exact mo_add_lt _ _ | exact mo_sub_lt _ _ | exact mo_mul_lt _ _ | exact mo_shl_lt _ _ | exact mo_ushr_lt _ _ | exact mo_or_lt (by decide) (mo_and_lt (mo_rd_lt _ _)) | exact mo_or_lt (mo_shl_lt _ _) (mo_and_lt (mo_rd_lt _ _)))) (sy_pfi xc129_66 xf129_616 rfl xt0_60 xn0_60 (wh_at hw 0 rfl) rfl (by first | decide | assumption | omega | exact mo_rd_lt _ _ | exact mo_add_lt _ _ | exact mo_sub_lt _ _ | exact mo_mul_lt _ _ | exact mo_shl_lt _ _ | exact mo_ushr_lt _ _ | exact mo_or_lt (by decide) (mo_and_lt (mo_rd_lt _ _)) | exact mo_or_lt (mo_shl_lt _ _) (mo_and_lt (mo_rd_lt _ _))) rfl sy_refl) ?_
  intro w X0 hw hX0
  simp only [List.set_cons_zero, List.set_cons_succ] at hw hX0
  exact sy_Fv xc129_69 xr129 ⟨rfl, _, hw, hX0⟩
def fb (F v K : Nat) : Nat := mv_wr 32 F 81 (mn_b (mn_b (mo_or (mv_rd 32 F 81) (mo_shl v K))))
theorem wq_bit8 (hw : wh 32 pl w0 w [(0, 0, 107, X0), (1, 1, 64, Pc), (1, 0, 64, mc_K), (1, 0, 64, Wd), (1, 0, 8, Vv), (1, 0, 8, St), (1, 0, 8, Af), (1, 1, 32, Mi), (1, 1, 4200, Hd), (1, 1, 1280, Bi), (1, 0, 40, Bf), (1, 0, 40, Hg), (1, 0, 40, Tm), (1, 0, 40, Bo), (1, 0, 40, Wk), (1, 0, 40, Pn), (1, 0, 40, Bs), (1, 1, 28, Mt), (1, 0, 160, Pst), (1, 0, 160, Ppl), (1, 0, 160, Psz), (1, 1, 76000, Bb), (1, 1, 5120, Pid), (1, 1, 600, So), (1, 0, 960, Fn), (1, 0, 40, Fc), (1, 1, 3200, Fl), (1, 0, 40, Fs), (1, 1, 32, Ou), (1, 1, 2400, Ly), (1, 0, 40, No), (1, 1, 20, Bu)]) (hX0 : fh X0 jQ [(0, th, 0), (2, pl 1, 0), (2, pl 2, 0), (2, pl 3, 0), (2, pl 4, 0), (2, pl 5, 0), (2, pl 6, 0), (2, pl 7, 0), (0, up, 0), (1, lp, 0), (2, pl 8, 0), (2, pl 9, 0), (2, pl 10, 0), (2, pl 11, 0), (2, pl 12, 0), (2, pl 13, 0), (2, pl 14, 0), (2, pl 15, 0), (2, pl 16, 0), (2, pl 17, 0), (2, pl 18, 0), (2, pl 19, 0), (2, pl 20, 0), (2, pl 21, 0), (2, pl 22, 0), (2, pl 23, 0), (2, pl 24, 0), (2, pl 25, 0), (2, pl 26, 0), (2, pl 27, 0), (2, pl 28, 0), (2, pl 29, 0), (2, pl 30, 0), (2, pl 31, 0), (0, 1, 0), (0, 0, 0), (0, sc, 0), (0, 8, 0), (0, 0, 0)]) {v : Nat} (hv : v < 4294967296) : sy_D 130 n 0 0 [(2, pl 0, 0), (0, 1, 0), (0, v, 0)] w (fun ret w' => ret = [] ∧ ∃ Y0 : Nat, wh 32 pl w0 w' [(0, 0, 107, Y0), (1, 1, 64, Pc), (1, 0, 64, mc_K), (1, 0, 64, Wd), (1, 0, 8, Vv), (1, 0, 8, St), (1, 0, 8, Af), (1, 1, 32, Mi), (1, 1, 4200, Hd), (1, 1, 1280, Bi), (1, 0, 40, Bf), (1, 0, 40, Hg), (1, 0, 40, Tm), (1, 0, 40, Bo), (1, 0, 40, Wk), (1, 0, 40, Pn), (1, 0, 40, Bs), (1, 1, 28, Mt), (1, 0, 160, Pst), (1, 0, 160, Ppl), (1, 0, 160, Psz), (1, 1, 76000, Bb), (1, 1, 5120, Pid), (1, 1, 600, So), (1, 0, 960, Fn), (1, 0, 40, Fc), (1, 1, 3200, (fb Fl v 7)), (1, 0, 40, Fs), (1, 1, 32, Ou), (1, 1, 2400, Ly), (1, 0, 40, No), (1, 1, 20, Bu)] ∧ fh Y0 jQ [(0, th, 0), (2, pl 1, 0), (2, pl 2, 0), (2, pl 3, 0), (2, pl 4, 0), (2, pl 5, 0), (2, pl 6, 0), (2, pl 7, 0), (0, up, 0), (1, lp, 0), (2, pl 8, 0), (2, pl 9, 0), (2, pl 10, 0), (2, pl 11, 0), (2, pl 12, 0), (2, pl 13, 0), (2, pl 14, 0), (2, pl 15, 0), (2, pl 16, 0), (2, pl 17, 0), (2, pl 18, 0), (2, pl 19, 0), (2, pl 20, 0), (2, pl 21, 0), (2, pl 22, 0), (2, pl 23, 0), (2, pl 24, 0), (2, pl 25, 0), (2, pl 26, 0), (2, pl 27, 0), (2, pl 28, 0), (2, pl 29, 0), (2, pl 30, 0), (2, pl 31, 0), (0, 1, 0), (0, 0, 0), (0, sc, 0), (0, 9, 0), (0, 0, 0)]) := by
  refine sy_Dof (us := []) (sy_oks_cons (sy_ok2 (wh_lt hw 0 (by first | decide | assumption))) (sy_oks_cons (sy_ok0 (by first | decide | assumption | omega | exact mo_rd_lt _ _ | exact mo_add_lt _ _ | exact mo_sub_lt _ _ | exact mo_mul_lt _ _ | exact mo_shl_lt _ _ | exact mo_ushr_lt _ _ | exact mo_or_lt (by decide) (mo_and_lt (mo_rd_lt _ _)) | exact mo_or_lt (mo_shl_lt _ _) (mo_and_lt (mo_rd_lt _ _)))) (sy_oks_cons (sy_ok0 (by first | decide | assumption | omega | exact mo_rd_lt _ _ | exact mo_add_lt _ _ | exact mo_sub_lt _ _ | exact mo_mul_lt _ _ | exact mo_shl_lt _ _ | exact mo_ushr_lt _ _ | exact mo_or_lt (by decide) (mo_and_lt (mo_rd_lt _ _)) | exact mo_or_lt (mo_shl_lt _ _) (mo_and_lt (mo_rd_lt _ _)))) sy_oks_nil))) rfl rfl ?_
  show sy_F 130 n 0 0 0 [(2, pl 0, 0), (0, 1, 0), (0, v, 0)] [] w _
  refine sy_Fs (sy_aldn xc130_0 rfl rfl sy_refl) ?_
  refine sy_Fs (sy_gf xc130_1 xf130_406 rfl (wh_at hw 0 rfl) rfl (fh_at hX0 28 rfl rfl) sy_refl) ?_
  refine sy_Fs (sy_bipush (v := 80) xc130_4 (by decide) (by decide) sy_refl) ?_
  refine sy_Fs (sy_ildn xc130_6 rfl rfl sy_refl) ?_
  refine sy_Fs (sx_imul (z := 80) xc130_7 (by decide)) ?_
  refine sy_Fs (sy_aldn xc130_8 rfl rfl sy_refl) ?_
  refine sy_Fs (sy_gf xc130_9 xf130_619 rfl (wh_at hw 0 rfl) rfl (fh_at hX0 37 rfl rfl) sy_refl) ?_
  refine sy_Fs (sy_bipush (v := 8) xc130_12 (by decide) (by decide) sy_refl) ?_
  refine sy_Fs (sx_idiv (z := 1) xc130_14 (by decide) (by decide)) ?_
  refine sy_Fs (sx_iadd (z := 81) xc130_15 (by decide)) ?_
  refine sy_Fs (sy_aldn xc130_16 rfl rfl sy_refl) ?_
  refine sy_Fs (sy_gf xc130_17 xf130_406 rfl (wh_at hw 0 rfl) rfl (fh_at hX0 28 rfl rfl) sy_refl) ?_
  refine sy_Fs (sy_bipush (v := 80) xc130_20 (by decide) (by decide) sy_refl) ?_
  refine sy_Fs (sy_ildn xc130_22 rfl rfl sy_refl) ?_
  refine sy_Fs (sx_imul (z := 80) xc130_23 (by decide)) ?_
  refine sy_Fs (sy_aldn xc130_24 rfl rfl sy_refl) ?_
  refine sy_Fs (sy_gf xc130_25 xf130_619 rfl (wh_at hw 0 rfl) rfl (fh_at hX0 37 rfl rfl) sy_refl) ?_
  refine sy_Fs (sy_bipush (v := 8) xc130_28 (by decide) (by decide) sy_refl) ?_
  refine sy_Fs (sx_idiv (z := 1) xc130_30 (by decide) (by decide)) ?_
  refine sy_Fs (sx_iadd (z := 81) xc130_31 (by decide)) ?_
  refine sy_Fs (sx_bal (z := (mv_rd 32 Fl 81)) xc130_32 (wh_at hw 26 rfl) (by decide) (by decide) rfl) ?_
  refine sy_Fs (sy_ildn xc130_33 rfl rfl sy_refl) ?_
  refine sy_Fs (sy_bipush (v := 7) xc130_34 (by decide) (by decide) sy_refl) ?_
  refine sy_Fs (sy_aldn xc130_36 rfl rfl sy_refl) ?_
  refine sy_Fs (sy_gf xc130_37 xf130_619 rfl (wh_at hw 0 rfl) rfl (fh_at hX0 37 rfl rfl) sy_refl) ?_
  refine sy_Fs (sy_bipush (v := 8) xc130_40 (by decide) (by decide) sy_refl) ?_
  refine sy_Fs (sx_irem (z := 0) xc130_42 (by decide) (by decide)) ?_
  refine sy_Fs (sx_isub (z := 7) xc130_43 (by decide)) ?_
  refine sy_Fs (sx_ishl (z := (mo_shl v 7)) xc130_44 rfl) ?_
  refine sy_Fs (sx_ior (z := (mo_or (mv_rd 32 Fl 81) (mo_shl v 7))) xc130_45 rfl) ?_
  refine sy_Fs (sx_i2b (z := (mn_b (mo_or (mv_rd 32 Fl 81) (mo_shl v 7)))) xc130_46 rfl) ?_
  refine sy_Fw (i := 26) (x := (1, 1, 3200, (fb Fl v 7))) hw (by decide) (sy_bas (i := 81) xc130_47 (wh_at hw 26 rfl) rfl (by decide) (by decide) rfl sy_refl) ?_
  intro w hw
  simp only [List.set_cons_zero, List.set_cons_succ] at hw
  refine sy_Fs (sy_aldn xc130_48 rfl rfl sy_refl) ?_
  refine sy_Fs (sy_dup xc130_49 rfl sy_refl) ?_
  refine sy_Fs (sy_gf xc130_50 xf130_619 rfl (wh_at hw 0 rfl) rfl (fh_at hX0 37 rfl rfl) sy_refl) ?_
  refine sy_Fs (sy_iconst (v := 1) xc130_53 (by decide) sy_refl) ?_
  refine sy_Fs (sx_iadd (z := 9) xc130_54 (by decide)) ?_
  refine sy_Ff (i := 0) (q := 37) (v := (0, 9, 0)) hw hX0 (by decide) (by decide) rfl (sy_ok0 (by first | decide | assumption | omega | exact mo_rd_lt _ _ | exact mo_add_lt _ _ | exact mo_sub_lt _ _ | exact mo_mul_lt _ _ | exact mo_shl_lt _ _ | exact mo_ushr_lt _ _ | exact mo_or_lt (by decide) (mo_and_lt (mo_rd_lt _ _)) | exact mo_or_lt (mo_shl_lt _ _) (mo_and_lt (mo_rd_lt _ _)))) (sy_pfi xc130_55 xf130_619 rfl xt0_61 xn0_61 (wh_at hw 0 rfl) rfl (by first | decide | assumption | omega | exact mo_rd_lt _ _ | exact mo_add_lt _ _ | exact mo_sub_lt _ _ | exact mo_mul_lt _ _ | exact mo_shl_lt _ _ | exact mo_ushr_lt _ _ | exact mo_or_lt (by decide) (mo_and_lt (mo_rd_lt _ _)) | exact mo_or_lt (mo_shl_lt _ _) (mo_and_lt (mo_rd_lt _ _))) rfl sy_refl) ?_
  intro w X0 hw hX0
  simp only [List.set_cons_zero, List.set_cons_succ] at hw hX0
  exact sy_Fv xc130_58 xr130 ⟨rfl, _, hw, hX0⟩
theorem wq_bit9 (hw : wh 32 pl w0 w [(0, 0, 107, X0), (1, 1, 64, Pc), (1, 0, 64, mc_K), (1, 0, 64, Wd), (1, 0, 8, Vv), (1, 0, 8, St), (1, 0, 8, Af), (1, 1, 32, Mi), (1, 1, 4200, Hd), (1, 1, 1280, Bi), (1, 0, 40, Bf), (1, 0, 40, Hg), (1, 0, 40, Tm), (1, 0, 40, Bo), (1, 0, 40, Wk), (1, 0, 40, Pn), (1, 0, 40, Bs), (1, 1, 28, Mt), (1, 0, 160, Pst), (1, 0, 160, Ppl), (1, 0, 160, Psz), (1, 1, 76000, Bb), (1, 1, 5120, Pid), (1, 1, 600, So), (1, 0, 960, Fn), (1, 0, 40, Fc), (1, 1, 3200, Fl), (1, 0, 40, Fs), (1, 1, 32, Ou), (1, 1, 2400, Ly), (1, 0, 40, No), (1, 1, 20, Bu)]) (hX0 : fh X0 jQ [(0, th, 0), (2, pl 1, 0), (2, pl 2, 0), (2, pl 3, 0), (2, pl 4, 0), (2, pl 5, 0), (2, pl 6, 0), (2, pl 7, 0), (0, up, 0), (1, lp, 0), (2, pl 8, 0), (2, pl 9, 0), (2, pl 10, 0), (2, pl 11, 0), (2, pl 12, 0), (2, pl 13, 0), (2, pl 14, 0), (2, pl 15, 0), (2, pl 16, 0), (2, pl 17, 0), (2, pl 18, 0), (2, pl 19, 0), (2, pl 20, 0), (2, pl 21, 0), (2, pl 22, 0), (2, pl 23, 0), (2, pl 24, 0), (2, pl 25, 0), (2, pl 26, 0), (2, pl 27, 0), (2, pl 28, 0), (2, pl 29, 0), (2, pl 30, 0), (2, pl 31, 0), (0, 1, 0), (0, 0, 0), (0, sc, 0), (0, 9, 0), (0, 0, 0)]) {v : Nat} (hv : v < 4294967296) : sy_D 130 n 0 0 [(2, pl 0, 0), (0, 1, 0), (0, v, 0)] w (fun ret w' => ret = [] ∧ ∃ Y0 : Nat, wh 32 pl w0 w' [(0, 0, 107, Y0), (1, 1, 64, Pc), (1, 0, 64, mc_K), (1, 0, 64, Wd), (1, 0, 8, Vv), (1, 0, 8, St), (1, 0, 8, Af), (1, 1, 32, Mi), (1, 1, 4200, Hd), (1, 1, 1280, Bi), (1, 0, 40, Bf), (1, 0, 40, Hg), (1, 0, 40, Tm), (1, 0, 40, Bo), (1, 0, 40, Wk), (1, 0, 40, Pn), (1, 0, 40, Bs), (1, 1, 28, Mt), (1, 0, 160, Pst), (1, 0, 160, Ppl), (1, 0, 160, Psz), (1, 1, 76000, Bb), (1, 1, 5120, Pid), (1, 1, 600, So), (1, 0, 960, Fn), (1, 0, 40, Fc), (1, 1, 3200, (fb Fl v 6)), (1, 0, 40, Fs), (1, 1, 32, Ou), (1, 1, 2400, Ly), (1, 0, 40, No), (1, 1, 20, Bu)] ∧ fh Y0 jQ [(0, th, 0), (2, pl 1, 0), (2, pl 2, 0), (2, pl 3, 0), (2, pl 4, 0), (2, pl 5, 0), (2, pl 6, 0), (2, pl 7, 0), (0, up, 0), (1, lp, 0), (2, pl 8, 0), (2, pl 9, 0), (2, pl 10, 0), (2, pl 11, 0), (2, pl 12, 0), (2, pl 13, 0), (2, pl 14, 0), (2, pl 15, 0), (2, pl 16, 0), (2, pl 17, 0), (2, pl 18, 0), (2, pl 19, 0), (2, pl 20, 0), (2, pl 21, 0), (2, pl 22, 0), (2, pl 23, 0), (2, pl 24, 0), (2, pl 25, 0), (2, pl 26, 0), (2, pl 27, 0), (2, pl 28, 0), (2, pl 29, 0), (2, pl 30, 0), (2, pl 31, 0), (0, 1, 0), (0, 0, 0), (0, sc, 0), (0, 10, 0), (0, 0, 0)]) := by
  refine sy_Dof (us := []) (sy_oks_cons (sy_ok2 (wh_lt hw 0 (by first | decide | assumption))) (sy_oks_cons (sy_ok0 (by first | decide | assumption | omega | exact mo_rd_lt _ _ | exact mo_add_lt _ _ | exact mo_sub_lt _ _ | exact mo_mul_lt _ _ | exact mo_shl_lt _ _ | exact mo_ushr_lt _ _ | exact mo_or_lt (by decide) (mo_and_lt (mo_rd_lt _ _)) | exact mo_or_lt (mo_shl_lt _ _) (mo_and_lt (mo_rd_lt _ _)))) (sy_oks_cons (sy_ok0 (by first | decide | assumption | omega | exact mo_rd_lt _ _ | exact mo_add_lt _ _ | exact mo_sub_lt _ _ | exact mo_mul_lt _ _ | exact mo_shl_lt _ _ | exact mo_ushr_lt _ _ | exact mo_or_lt (by decide) (mo_and_lt (mo_rd_lt _ _)) | exact mo_or_lt (mo_shl_lt _ _) (mo_and_lt (mo_rd_lt _ _)))) sy_oks_nil))) rfl rfl ?_
  show sy_F 130 n 0 0 0 [(2, pl 0, 0), (0, 1, 0), (0, v, 0)] [] w _
  refine sy_Fs (sy_aldn xc130_0 rfl rfl sy_refl) ?_
  refine sy_Fs (sy_gf xc130_1 xf130_406 rfl (wh_at hw 0 rfl) rfl (fh_at hX0 28 rfl rfl) sy_refl) ?_
  refine sy_Fs (sy_bipush (v := 80) xc130_4 (by decide) (by decide) sy_refl) ?_
  refine sy_Fs (sy_ildn xc130_6 rfl rfl sy_refl) ?_
  refine sy_Fs (sx_imul (z := 80) xc130_7 (by decide)) ?_
  refine sy_Fs (sy_aldn xc130_8 rfl rfl sy_refl) ?_
  refine sy_Fs (sy_gf xc130_9 xf130_619 rfl (wh_at hw 0 rfl) rfl (fh_at hX0 37 rfl rfl) sy_refl) ?_
  refine sy_Fs (sy_bipush (v := 8) xc130_12 (by decide) (by decide) sy_refl) ?_
  refine sy_Fs (sx_idiv (z := 1) xc130_14 (by decide) (by decide)) ?_
  refine sy_Fs (sx_iadd (z := 81) xc130_15 (by decide)) ?_
  refine sy_Fs (sy_aldn xc130_16 rfl rfl sy_refl) ?_
  refine sy_Fs (sy_gf xc130_17 xf130_406 rfl (wh_at hw 0 rfl) rfl (fh_at hX0 28 rfl rfl) sy_refl) ?_
  refine sy_Fs (sy_bipush (v := 80) xc130_20 (by decide) (by decide) sy_refl) ?_
  refine sy_Fs (sy_ildn xc130_22 rfl rfl sy_refl) ?_
  refine sy_Fs (sx_imul (z := 80) xc130_23 (by decide)) ?_
  refine sy_Fs (sy_aldn xc130_24 rfl rfl sy_refl) ?_
  refine sy_Fs (sy_gf xc130_25 xf130_619 rfl (wh_at hw 0 rfl) rfl (fh_at hX0 37 rfl rfl) sy_refl) ?_
  refine sy_Fs (sy_bipush (v := 8) xc130_28 (by decide) (by decide) sy_refl) ?_
  refine sy_Fs (sx_idiv (z := 1) xc130_30 (by decide) (by decide)) ?_
  refine sy_Fs (sx_iadd (z := 81) xc130_31 (by decide)) ?_
  refine sy_Fs (sx_bal (z := (mv_rd 32 Fl 81)) xc130_32 (wh_at hw 26 rfl) (by decide) (by decide) rfl) ?_
  refine sy_Fs (sy_ildn xc130_33 rfl rfl sy_refl) ?_
  refine sy_Fs (sy_bipush (v := 7) xc130_34 (by decide) (by decide) sy_refl) ?_
  refine sy_Fs (sy_aldn xc130_36 rfl rfl sy_refl) ?_
  refine sy_Fs (sy_gf xc130_37 xf130_619 rfl (wh_at hw 0 rfl) rfl (fh_at hX0 37 rfl rfl) sy_refl) ?_
  refine sy_Fs (sy_bipush (v := 8) xc130_40 (by decide) (by decide) sy_refl) ?_
  refine sy_Fs (sx_irem (z := 1) xc130_42 (by decide) (by decide)) ?_
  refine sy_Fs (sx_isub (z := 6) xc130_43 (by decide)) ?_
  refine sy_Fs (sx_ishl (z := (mo_shl v 6)) xc130_44 rfl) ?_
  refine sy_Fs (sx_ior (z := (mo_or (mv_rd 32 Fl 81) (mo_shl v 6))) xc130_45 rfl) ?_
  refine sy_Fs (sx_i2b (z := (mn_b (mo_or (mv_rd 32 Fl 81) (mo_shl v 6)))) xc130_46 rfl) ?_
  refine sy_Fw (i := 26) (x := (1, 1, 3200, (fb Fl v 6))) hw (by decide) (sy_bas (i := 81) xc130_47 (wh_at hw 26 rfl) rfl (by decide) (by decide) rfl sy_refl) ?_
  intro w hw
  simp only [List.set_cons_zero, List.set_cons_succ] at hw
  refine sy_Fs (sy_aldn xc130_48 rfl rfl sy_refl) ?_
  refine sy_Fs (sy_dup xc130_49 rfl sy_refl) ?_
  refine sy_Fs (sy_gf xc130_50 xf130_619 rfl (wh_at hw 0 rfl) rfl (fh_at hX0 37 rfl rfl) sy_refl) ?_
  refine sy_Fs (sy_iconst (v := 1) xc130_53 (by decide) sy_refl) ?_
  refine sy_Fs (sx_iadd (z := 10) xc130_54 (by decide)) ?_
  refine sy_Ff (i := 0) (q := 37) (v := (0, 10, 0)) hw hX0 (by decide) (by decide) rfl (sy_ok0 (by first | decide | assumption | omega | exact mo_rd_lt _ _ | exact mo_add_lt _ _ | exact mo_sub_lt _ _ | exact mo_mul_lt _ _ | exact mo_shl_lt _ _ | exact mo_ushr_lt _ _ | exact mo_or_lt (by decide) (mo_and_lt (mo_rd_lt _ _)) | exact mo_or_lt (mo_shl_lt _ _) (mo_and_lt (mo_rd_lt _ _)))) (sy_pfi xc130_55 xf130_619 rfl xt0_61 xn0_61 (wh_at hw 0 rfl) rfl (by first | decide | assumption | omega | exact mo_rd_lt _ _ | exact mo_add_lt _ _ | exact mo_sub_lt _ _ | exact mo_mul_lt _ _ | exact mo_shl_lt _ _ | exact mo_ushr_lt _ _ | exact mo_or_lt (by decide) (mo_and_lt (mo_rd_lt _ _)) | exact mo_or_lt (mo_shl_lt _ _) (mo_and_lt (mo_rd_lt _ _))) rfl sy_refl) ?_
  intro w X0 hw hX0
  simp only [List.set_cons_zero, List.set_cons_succ] at hw hX0
  exact sy_Fv xc130_58 xr130 ⟨rfl, _, hw, hX0⟩
theorem wq_bit10 (hw : wh 32 pl w0 w [(0, 0, 107, X0), (1, 1, 64, Pc), (1, 0, 64, mc_K), (1, 0, 64, Wd), (1, 0, 8, Vv), (1, 0, 8, St), (1, 0, 8, Af), (1, 1, 32, Mi), (1, 1, 4200, Hd), (1, 1, 1280, Bi), (1, 0, 40, Bf), (1, 0, 40, Hg), (1, 0, 40, Tm), (1, 0, 40, Bo), (1, 0, 40, Wk), (1, 0, 40, Pn), (1, 0, 40, Bs), (1, 1, 28, Mt), (1, 0, 160, Pst), (1, 0, 160, Ppl), (1, 0, 160, Psz), (1, 1, 76000, Bb), (1, 1, 5120, Pid), (1, 1, 600, So), (1, 0, 960, Fn), (1, 0, 40, Fc), (1, 1, 3200, Fl), (1, 0, 40, Fs), (1, 1, 32, Ou), (1, 1, 2400, Ly), (1, 0, 40, No), (1, 1, 20, Bu)]) (hX0 : fh X0 jQ [(0, th, 0), (2, pl 1, 0), (2, pl 2, 0), (2, pl 3, 0), (2, pl 4, 0), (2, pl 5, 0), (2, pl 6, 0), (2, pl 7, 0), (0, up, 0), (1, lp, 0), (2, pl 8, 0), (2, pl 9, 0), (2, pl 10, 0), (2, pl 11, 0), (2, pl 12, 0), (2, pl 13, 0), (2, pl 14, 0), (2, pl 15, 0), (2, pl 16, 0), (2, pl 17, 0), (2, pl 18, 0), (2, pl 19, 0), (2, pl 20, 0), (2, pl 21, 0), (2, pl 22, 0), (2, pl 23, 0), (2, pl 24, 0), (2, pl 25, 0), (2, pl 26, 0), (2, pl 27, 0), (2, pl 28, 0), (2, pl 29, 0), (2, pl 30, 0), (2, pl 31, 0), (0, 1, 0), (0, 0, 0), (0, sc, 0), (0, 10, 0), (0, 0, 0)]) {v : Nat} (hv : v < 4294967296) : sy_D 130 n 0 0 [(2, pl 0, 0), (0, 1, 0), (0, v, 0)] w (fun ret w' => ret = [] ∧ ∃ Y0 : Nat, wh 32 pl w0 w' [(0, 0, 107, Y0), (1, 1, 64, Pc), (1, 0, 64, mc_K), (1, 0, 64, Wd), (1, 0, 8, Vv), (1, 0, 8, St), (1, 0, 8, Af), (1, 1, 32, Mi), (1, 1, 4200, Hd), (1, 1, 1280, Bi), (1, 0, 40, Bf), (1, 0, 40, Hg), (1, 0, 40, Tm), (1, 0, 40, Bo), (1, 0, 40, Wk), (1, 0, 40, Pn), (1, 0, 40, Bs), (1, 1, 28, Mt), (1, 0, 160, Pst), (1, 0, 160, Ppl), (1, 0, 160, Psz), (1, 1, 76000, Bb), (1, 1, 5120, Pid), (1, 1, 600, So), (1, 0, 960, Fn), (1, 0, 40, Fc), (1, 1, 3200, (fb Fl v 5)), (1, 0, 40, Fs), (1, 1, 32, Ou), (1, 1, 2400, Ly), (1, 0, 40, No), (1, 1, 20, Bu)] ∧ fh Y0 jQ [(0, th, 0), (2, pl 1, 0), (2, pl 2, 0), (2, pl 3, 0), (2, pl 4, 0), (2, pl 5, 0), (2, pl 6, 0), (2, pl 7, 0), (0, up, 0), (1, lp, 0), (2, pl 8, 0), (2, pl 9, 0), (2, pl 10, 0), (2, pl 11, 0), (2, pl 12, 0), (2, pl 13, 0), (2, pl 14, 0), (2, pl 15, 0), (2, pl 16, 0), (2, pl 17, 0), (2, pl 18, 0), (2, pl 19, 0), (2, pl 20, 0), (2, pl 21, 0), (2, pl 22, 0), (2, pl 23, 0), (2, pl 24, 0), (2, pl 25, 0), (2, pl 26, 0), (2, pl 27, 0), (2, pl 28, 0), (2, pl 29, 0), (2, pl 30, 0), (2, pl 31, 0), (0, 1, 0), (0, 0, 0), (0, sc, 0), (0, 11, 0), (0, 0, 0)]) := by
  refine sy_Dof (us := []) (sy_oks_cons (sy_ok2 (wh_lt hw 0 (by first | decide | assumption))) (sy_oks_cons (sy_ok0 (by first | decide | assumption | omega | exact mo_rd_lt _ _ | exact mo_add_lt _ _ | exact mo_sub_lt _ _ | exact mo_mul_lt _ _ | exact mo_shl_lt _ _ | exact mo_ushr_lt _ _ | exact mo_or_lt (by decide) (mo_and_lt (mo_rd_lt _ _)) | exact mo_or_lt (mo_shl_lt _ _) (mo_and_lt (mo_rd_lt _ _)))) (sy_oks_cons (sy_ok0 (by first | decide | assumption | omega | exact mo_rd_lt _ _ | exact mo_add_lt _ _ | exact mo_sub_lt _ _ | exact mo_mul_lt _ _ | exact mo_shl_lt _ _ | exact mo_ushr_lt _ _ | exact mo_or_lt (by decide) (mo_and_lt (mo_rd_lt _ _)) | exact mo_or_lt (mo_shl_lt _ _) (mo_and_lt (mo_rd_lt _ _)))) sy_oks_nil))) rfl rfl ?_
  show sy_F 130 n 0 0 0 [(2, pl 0, 0), (0, 1, 0), (0, v, 0)] [] w _
  refine sy_Fs (sy_aldn xc130_0 rfl rfl sy_refl) ?_
  refine sy_Fs (sy_gf xc130_1 xf130_406 rfl (wh_at hw 0 rfl) rfl (fh_at hX0 28 rfl rfl) sy_refl) ?_
  refine sy_Fs (sy_bipush (v := 80) xc130_4 (by decide) (by decide) sy_refl) ?_
  refine sy_Fs (sy_ildn xc130_6 rfl rfl sy_refl) ?_
  refine sy_Fs (sx_imul (z := 80) xc130_7 (by decide)) ?_
  refine sy_Fs (sy_aldn xc130_8 rfl rfl sy_refl) ?_
  refine sy_Fs (sy_gf xc130_9 xf130_619 rfl (wh_at hw 0 rfl) rfl (fh_at hX0 37 rfl rfl) sy_refl) ?_
  refine sy_Fs (sy_bipush (v := 8) xc130_12 (by decide) (by decide) sy_refl) ?_
  refine sy_Fs (sx_idiv (z := 1) xc130_14 (by decide) (by decide)) ?_
  refine sy_Fs (sx_iadd (z := 81) xc130_15 (by decide)) ?_
  refine sy_Fs (sy_aldn xc130_16 rfl rfl sy_refl) ?_
  refine sy_Fs (sy_gf xc130_17 xf130_406 rfl (wh_at hw 0 rfl) rfl (fh_at hX0 28 rfl rfl) sy_refl) ?_
  refine sy_Fs (sy_bipush (v := 80) xc130_20 (by decide) (by decide) sy_refl) ?_
  refine sy_Fs (sy_ildn xc130_22 rfl rfl sy_refl) ?_
  refine sy_Fs (sx_imul (z := 80) xc130_23 (by decide)) ?_
  refine sy_Fs (sy_aldn xc130_24 rfl rfl sy_refl) ?_
  refine sy_Fs (sy_gf xc130_25 xf130_619 rfl (wh_at hw 0 rfl) rfl (fh_at hX0 37 rfl rfl) sy_refl) ?_
  refine sy_Fs (sy_bipush (v := 8) xc130_28 (by decide) (by decide) sy_refl) ?_
  refine sy_Fs (sx_idiv (z := 1) xc130_30 (by decide) (by decide)) ?_
  refine sy_Fs (sx_iadd (z := 81) xc130_31 (by decide)) ?_
  refine sy_Fs (sx_bal (z := (mv_rd 32 Fl 81)) xc130_32 (wh_at hw 26 rfl) (by decide) (by decide) rfl) ?_
  refine sy_Fs (sy_ildn xc130_33 rfl rfl sy_refl) ?_
  refine sy_Fs (sy_bipush (v := 7) xc130_34 (by decide) (by decide) sy_refl) ?_
  refine sy_Fs (sy_aldn xc130_36 rfl rfl sy_refl) ?_
  refine sy_Fs (sy_gf xc130_37 xf130_619 rfl (wh_at hw 0 rfl) rfl (fh_at hX0 37 rfl rfl) sy_refl) ?_
  refine sy_Fs (sy_bipush (v := 8) xc130_40 (by decide) (by decide) sy_refl) ?_
  refine sy_Fs (sx_irem (z := 2) xc130_42 (by decide) (by decide)) ?_
  refine sy_Fs (sx_isub (z := 5) xc130_43 (by decide)) ?_
  refine sy_Fs (sx_ishl (z := (mo_shl v 5)) xc130_44 rfl) ?_
  refine sy_Fs (sx_ior (z := (mo_or (mv_rd 32 Fl 81) (mo_shl v 5))) xc130_45 rfl) ?_
  refine sy_Fs (sx_i2b (z := (mn_b (mo_or (mv_rd 32 Fl 81) (mo_shl v 5)))) xc130_46 rfl) ?_
  refine sy_Fw (i := 26) (x := (1, 1, 3200, (fb Fl v 5))) hw (by decide) (sy_bas (i := 81) xc130_47 (wh_at hw 26 rfl) rfl (by decide) (by decide) rfl sy_refl) ?_
  intro w hw
  simp only [List.set_cons_zero, List.set_cons_succ] at hw
  refine sy_Fs (sy_aldn xc130_48 rfl rfl sy_refl) ?_
  refine sy_Fs (sy_dup xc130_49 rfl sy_refl) ?_
  refine sy_Fs (sy_gf xc130_50 xf130_619 rfl (wh_at hw 0 rfl) rfl (fh_at hX0 37 rfl rfl) sy_refl) ?_
  refine sy_Fs (sy_iconst (v := 1) xc130_53 (by decide) sy_refl) ?_
  refine sy_Fs (sx_iadd (z := 11) xc130_54 (by decide)) ?_
  refine sy_Ff (i := 0) (q := 37) (v := (0, 11, 0)) hw hX0 (by decide) (by decide) rfl (sy_ok0 (by first | decide | assumption | omega | exact mo_rd_lt _ _ | exact mo_add_lt _ _ | exact mo_sub_lt _ _ | exact mo_mul_lt _ _ | exact mo_shl_lt _ _ | exact mo_ushr_lt _ _ | exact mo_or_lt (by decide) (mo_and_lt (mo_rd_lt _ _)) | exact mo_or_lt (mo_shl_lt _ _) (mo_and_lt (mo_rd_lt _ _)))) (sy_pfi xc130_55 xf130_619 rfl xt0_61 xn0_61 (wh_at hw 0 rfl) rfl (by first | decide | assumption | omega | exact mo_rd_lt _ _ | exact mo_add_lt _ _ | exact mo_sub_lt _ _ | exact mo_mul_lt _ _ | exact mo_shl_lt _ _ | exact mo_ushr_lt _ _ | exact mo_or_lt (by decide) (mo_and_lt (mo_rd_lt _ _)) | exact mo_or_lt (mo_shl_lt _ _) (mo_and_lt (mo_rd_lt _ _))) rfl sy_refl) ?_
  intro w X0 hw hX0
  simp only [List.set_cons_zero, List.set_cons_succ] at hw hX0
  exact sy_Fv xc130_58 xr130 ⟨rfl, _, hw, hX0⟩
theorem wq_bit11 (hw : wh 32 pl w0 w [(0, 0, 107, X0), (1, 1, 64, Pc), (1, 0, 64, mc_K), (1, 0, 64, Wd), (1, 0, 8, Vv), (1, 0, 8, St), (1, 0, 8, Af), (1, 1, 32, Mi), (1, 1, 4200, Hd), (1, 1, 1280, Bi), (1, 0, 40, Bf), (1, 0, 40, Hg), (1, 0, 40, Tm), (1, 0, 40, Bo), (1, 0, 40, Wk), (1, 0, 40, Pn), (1, 0, 40, Bs), (1, 1, 28, Mt), (1, 0, 160, Pst), (1, 0, 160, Ppl), (1, 0, 160, Psz), (1, 1, 76000, Bb), (1, 1, 5120, Pid), (1, 1, 600, So), (1, 0, 960, Fn), (1, 0, 40, Fc), (1, 1, 3200, Fl), (1, 0, 40, Fs), (1, 1, 32, Ou), (1, 1, 2400, Ly), (1, 0, 40, No), (1, 1, 20, Bu)]) (hX0 : fh X0 jQ [(0, th, 0), (2, pl 1, 0), (2, pl 2, 0), (2, pl 3, 0), (2, pl 4, 0), (2, pl 5, 0), (2, pl 6, 0), (2, pl 7, 0), (0, up, 0), (1, lp, 0), (2, pl 8, 0), (2, pl 9, 0), (2, pl 10, 0), (2, pl 11, 0), (2, pl 12, 0), (2, pl 13, 0), (2, pl 14, 0), (2, pl 15, 0), (2, pl 16, 0), (2, pl 17, 0), (2, pl 18, 0), (2, pl 19, 0), (2, pl 20, 0), (2, pl 21, 0), (2, pl 22, 0), (2, pl 23, 0), (2, pl 24, 0), (2, pl 25, 0), (2, pl 26, 0), (2, pl 27, 0), (2, pl 28, 0), (2, pl 29, 0), (2, pl 30, 0), (2, pl 31, 0), (0, 1, 0), (0, 0, 0), (0, sc, 0), (0, 11, 0), (0, 0, 0)]) {v : Nat} (hv : v < 4294967296) : sy_D 130 n 0 0 [(2, pl 0, 0), (0, 1, 0), (0, v, 0)] w (fun ret w' => ret = [] ∧ ∃ Y0 : Nat, wh 32 pl w0 w' [(0, 0, 107, Y0), (1, 1, 64, Pc), (1, 0, 64, mc_K), (1, 0, 64, Wd), (1, 0, 8, Vv), (1, 0, 8, St), (1, 0, 8, Af), (1, 1, 32, Mi), (1, 1, 4200, Hd), (1, 1, 1280, Bi), (1, 0, 40, Bf), (1, 0, 40, Hg), (1, 0, 40, Tm), (1, 0, 40, Bo), (1, 0, 40, Wk), (1, 0, 40, Pn), (1, 0, 40, Bs), (1, 1, 28, Mt), (1, 0, 160, Pst), (1, 0, 160, Ppl), (1, 0, 160, Psz), (1, 1, 76000, Bb), (1, 1, 5120, Pid), (1, 1, 600, So), (1, 0, 960, Fn), (1, 0, 40, Fc), (1, 1, 3200, (fb Fl v 4)), (1, 0, 40, Fs), (1, 1, 32, Ou), (1, 1, 2400, Ly), (1, 0, 40, No), (1, 1, 20, Bu)] ∧ fh Y0 jQ [(0, th, 0), (2, pl 1, 0), (2, pl 2, 0), (2, pl 3, 0), (2, pl 4, 0), (2, pl 5, 0), (2, pl 6, 0), (2, pl 7, 0), (0, up, 0), (1, lp, 0), (2, pl 8, 0), (2, pl 9, 0), (2, pl 10, 0), (2, pl 11, 0), (2, pl 12, 0), (2, pl 13, 0), (2, pl 14, 0), (2, pl 15, 0), (2, pl 16, 0), (2, pl 17, 0), (2, pl 18, 0), (2, pl 19, 0), (2, pl 20, 0), (2, pl 21, 0), (2, pl 22, 0), (2, pl 23, 0), (2, pl 24, 0), (2, pl 25, 0), (2, pl 26, 0), (2, pl 27, 0), (2, pl 28, 0), (2, pl 29, 0), (2, pl 30, 0), (2, pl 31, 0), (0, 1, 0), (0, 0, 0), (0, sc, 0), (0, 12, 0), (0, 0, 0)]) := by
  refine sy_Dof (us := []) (sy_oks_cons (sy_ok2 (wh_lt hw 0 (by first | decide | assumption))) (sy_oks_cons (sy_ok0 (by first | decide | assumption | omega | exact mo_rd_lt _ _ | exact mo_add_lt _ _ | exact mo_sub_lt _ _ | exact mo_mul_lt _ _ | exact mo_shl_lt _ _ | exact mo_ushr_lt _ _ | exact mo_or_lt (by decide) (mo_and_lt (mo_rd_lt _ _)) | exact mo_or_lt (mo_shl_lt _ _) (mo_and_lt (mo_rd_lt _ _)))) (sy_oks_cons (sy_ok0 (by first | decide | assumption | omega | exact mo_rd_lt _ _ | exact mo_add_lt _ _ | exact mo_sub_lt _ _ | exact mo_mul_lt _ _ | exact mo_shl_lt _ _ | exact mo_ushr_lt _ _ | exact mo_or_lt (by decide) (mo_and_lt (mo_rd_lt _ _)) | exact mo_or_lt (mo_shl_lt _ _) (mo_and_lt (mo_rd_lt _ _)))) sy_oks_nil))) rfl rfl ?_
  show sy_F 130 n 0 0 0 [(2, pl 0, 0), (0, 1, 0), (0, v, 0)] [] w _
  refine sy_Fs (sy_aldn xc130_0 rfl rfl sy_refl) ?_
  refine sy_Fs (sy_gf xc130_1 xf130_406 rfl (wh_at hw 0 rfl) rfl (fh_at hX0 28 rfl rfl) sy_refl) ?_
  refine sy_Fs (sy_bipush (v := 80) xc130_4 (by decide) (by decide) sy_refl) ?_
  refine sy_Fs (sy_ildn xc130_6 rfl rfl sy_refl) ?_
  refine sy_Fs (sx_imul (z := 80) xc130_7 (by decide)) ?_
  refine sy_Fs (sy_aldn xc130_8 rfl rfl sy_refl) ?_
  refine sy_Fs (sy_gf xc130_9 xf130_619 rfl (wh_at hw 0 rfl) rfl (fh_at hX0 37 rfl rfl) sy_refl) ?_
  refine sy_Fs (sy_bipush (v := 8) xc130_12 (by decide) (by decide) sy_refl) ?_
  refine sy_Fs (sx_idiv (z := 1) xc130_14 (by decide) (by decide)) ?_
  refine sy_Fs (sx_iadd (z := 81) xc130_15 (by decide)) ?_
  refine sy_Fs (sy_aldn xc130_16 rfl rfl sy_refl) ?_
  refine sy_Fs (sy_gf xc130_17 xf130_406 rfl (wh_at hw 0 rfl) rfl (fh_at hX0 28 rfl rfl) sy_refl) ?_
  refine sy_Fs (sy_bipush (v := 80) xc130_20 (by decide) (by decide) sy_refl) ?_
  refine sy_Fs (sy_ildn xc130_22 rfl rfl sy_refl) ?_
  refine sy_Fs (sx_imul (z := 80) xc130_23 (by decide)) ?_
  refine sy_Fs (sy_aldn xc130_24 rfl rfl sy_refl) ?_
  refine sy_Fs (sy_gf xc130_25 xf130_619 rfl (wh_at hw 0 rfl) rfl (fh_at hX0 37 rfl rfl) sy_refl) ?_
  refine sy_Fs (sy_bipush (v := 8) xc130_28 (by decide) (by decide) sy_refl) ?_
  refine sy_Fs (sx_idiv (z := 1) xc130_30 (by decide) (by decide)) ?_
  refine sy_Fs (sx_iadd (z := 81) xc130_31 (by decide)) ?_
  refine sy_Fs (sx_bal (z := (mv_rd 32 Fl 81)) xc130_32 (wh_at hw 26 rfl) (by decide) (by decide) rfl) ?_
  refine sy_Fs (sy_ildn xc130_33 rfl rfl sy_refl) ?_
  refine sy_Fs (sy_bipush (v := 7) xc130_34 (by decide) (by decide) sy_refl) ?_
  refine sy_Fs (sy_aldn xc130_36 rfl rfl sy_refl) ?_
  refine sy_Fs (sy_gf xc130_37 xf130_619 rfl (wh_at hw 0 rfl) rfl (fh_at hX0 37 rfl rfl) sy_refl) ?_
  refine sy_Fs (sy_bipush (v := 8) xc130_40 (by decide) (by decide) sy_refl) ?_
  refine sy_Fs (sx_irem (z := 3) xc130_42 (by decide) (by decide)) ?_
  refine sy_Fs (sx_isub (z := 4) xc130_43 (by decide)) ?_
  refine sy_Fs (sx_ishl (z := (mo_shl v 4)) xc130_44 rfl) ?_
  refine sy_Fs (sx_ior (z := (mo_or (mv_rd 32 Fl 81) (mo_shl v 4))) xc130_45 rfl) ?_
  refine sy_Fs (sx_i2b (z := (mn_b (mo_or (mv_rd 32 Fl 81) (mo_shl v 4)))) xc130_46 rfl) ?_
  refine sy_Fw (i := 26) (x := (1, 1, 3200, (fb Fl v 4))) hw (by decide) (sy_bas (i := 81) xc130_47 (wh_at hw 26 rfl) rfl (by decide) (by decide) rfl sy_refl) ?_
  intro w hw
  simp only [List.set_cons_zero, List.set_cons_succ] at hw
  refine sy_Fs (sy_aldn xc130_48 rfl rfl sy_refl) ?_
  refine sy_Fs (sy_dup xc130_49 rfl sy_refl) ?_
  refine sy_Fs (sy_gf xc130_50 xf130_619 rfl (wh_at hw 0 rfl) rfl (fh_at hX0 37 rfl rfl) sy_refl) ?_
  refine sy_Fs (sy_iconst (v := 1) xc130_53 (by decide) sy_refl) ?_
  refine sy_Fs (sx_iadd (z := 12) xc130_54 (by decide)) ?_
  refine sy_Ff (i := 0) (q := 37) (v := (0, 12, 0)) hw hX0 (by decide) (by decide) rfl (sy_ok0 (by first | decide | assumption | omega | exact mo_rd_lt _ _ | exact mo_add_lt _ _ | exact mo_sub_lt _ _ | exact mo_mul_lt _ _ | exact mo_shl_lt _ _ | exact mo_ushr_lt _ _ | exact mo_or_lt (by decide) (mo_and_lt (mo_rd_lt _ _)) | exact mo_or_lt (mo_shl_lt _ _) (mo_and_lt (mo_rd_lt _ _)))) (sy_pfi xc130_55 xf130_619 rfl xt0_61 xn0_61 (wh_at hw 0 rfl) rfl (by first | decide | assumption | omega | exact mo_rd_lt _ _ | exact mo_add_lt _ _ | exact mo_sub_lt _ _ | exact mo_mul_lt _ _ | exact mo_shl_lt _ _ | exact mo_ushr_lt _ _ | exact mo_or_lt (by decide) (mo_and_lt (mo_rd_lt _ _)) | exact mo_or_lt (mo_shl_lt _ _) (mo_and_lt (mo_rd_lt _ _))) rfl sy_refl) ?_
  intro w X0 hw hX0
  simp only [List.set_cons_zero, List.set_cons_succ] at hw hX0
  exact sy_Fv xc130_58 xr130 ⟨rfl, _, hw, hX0⟩
theorem wq_bit12 (hw : wh 32 pl w0 w [(0, 0, 107, X0), (1, 1, 64, Pc), (1, 0, 64, mc_K), (1, 0, 64, Wd), (1, 0, 8, Vv), (1, 0, 8, St), (1, 0, 8, Af), (1, 1, 32, Mi), (1, 1, 4200, Hd), (1, 1, 1280, Bi), (1, 0, 40, Bf), (1, 0, 40, Hg), (1, 0, 40, Tm), (1, 0, 40, Bo), (1, 0, 40, Wk), (1, 0, 40, Pn), (1, 0, 40, Bs), (1, 1, 28, Mt), (1, 0, 160, Pst), (1, 0, 160, Ppl), (1, 0, 160, Psz), (1, 1, 76000, Bb), (1, 1, 5120, Pid), (1, 1, 600, So), (1, 0, 960, Fn), (1, 0, 40, Fc), (1, 1, 3200, Fl), (1, 0, 40, Fs), (1, 1, 32, Ou), (1, 1, 2400, Ly), (1, 0, 40, No), (1, 1, 20, Bu)]) (hX0 : fh X0 jQ [(0, th, 0), (2, pl 1, 0), (2, pl 2, 0), (2, pl 3, 0), (2, pl 4, 0), (2, pl 5, 0), (2, pl 6, 0), (2, pl 7, 0), (0, up, 0), (1, lp, 0), (2, pl 8, 0), (2, pl 9, 0), (2, pl 10, 0), (2, pl 11, 0), (2, pl 12, 0), (2, pl 13, 0), (2, pl 14, 0), (2, pl 15, 0), (2, pl 16, 0), (2, pl 17, 0), (2, pl 18, 0), (2, pl 19, 0), (2, pl 20, 0), (2, pl 21, 0), (2, pl 22, 0), (2, pl 23, 0), (2, pl 24, 0), (2, pl 25, 0), (2, pl 26, 0), (2, pl 27, 0), (2, pl 28, 0), (2, pl 29, 0), (2, pl 30, 0), (2, pl 31, 0), (0, 1, 0), (0, 0, 0), (0, sc, 0), (0, 12, 0), (0, 0, 0)]) {v : Nat} (hv : v < 4294967296) : sy_D 130 n 0 0 [(2, pl 0, 0), (0, 1, 0), (0, v, 0)] w (fun ret w' => ret = [] ∧ ∃ Y0 : Nat, wh 32 pl w0 w' [(0, 0, 107, Y0), (1, 1, 64, Pc), (1, 0, 64, mc_K), (1, 0, 64, Wd), (1, 0, 8, Vv), (1, 0, 8, St), (1, 0, 8, Af), (1, 1, 32, Mi), (1, 1, 4200, Hd), (1, 1, 1280, Bi), (1, 0, 40, Bf), (1, 0, 40, Hg), (1, 0, 40, Tm), (1, 0, 40, Bo), (1, 0, 40, Wk), (1, 0, 40, Pn), (1, 0, 40, Bs), (1, 1, 28, Mt), (1, 0, 160, Pst), (1, 0, 160, Ppl), (1, 0, 160, Psz), (1, 1, 76000, Bb), (1, 1, 5120, Pid), (1, 1, 600, So), (1, 0, 960, Fn), (1, 0, 40, Fc), (1, 1, 3200, (fb Fl v 3)), (1, 0, 40, Fs), (1, 1, 32, Ou), (1, 1, 2400, Ly), (1, 0, 40, No), (1, 1, 20, Bu)] ∧ fh Y0 jQ [(0, th, 0), (2, pl 1, 0), (2, pl 2, 0), (2, pl 3, 0), (2, pl 4, 0), (2, pl 5, 0), (2, pl 6, 0), (2, pl 7, 0), (0, up, 0), (1, lp, 0), (2, pl 8, 0), (2, pl 9, 0), (2, pl 10, 0), (2, pl 11, 0), (2, pl 12, 0), (2, pl 13, 0), (2, pl 14, 0), (2, pl 15, 0), (2, pl 16, 0), (2, pl 17, 0), (2, pl 18, 0), (2, pl 19, 0), (2, pl 20, 0), (2, pl 21, 0), (2, pl 22, 0), (2, pl 23, 0), (2, pl 24, 0), (2, pl 25, 0), (2, pl 26, 0), (2, pl 27, 0), (2, pl 28, 0), (2, pl 29, 0), (2, pl 30, 0), (2, pl 31, 0), (0, 1, 0), (0, 0, 0), (0, sc, 0), (0, 13, 0), (0, 0, 0)]) := by
  refine sy_Dof (us := []) (sy_oks_cons (sy_ok2 (wh_lt hw 0 (by first | decide | assumption))) (sy_oks_cons (sy_ok0 (by first | decide | assumption | omega | exact mo_rd_lt _ _ | exact mo_add_lt _ _ | exact mo_sub_lt _ _ | exact mo_mul_lt _ _ | exact mo_shl_lt _ _ | exact mo_ushr_lt _ _ | exact mo_or_lt (by decide) (mo_and_lt (mo_rd_lt _ _)) | exact mo_or_lt (mo_shl_lt _ _) (mo_and_lt (mo_rd_lt _ _)))) (sy_oks_cons (sy_ok0 (by first | decide | assumption | omega | exact mo_rd_lt _ _ | exact mo_add_lt _ _ | exact mo_sub_lt _ _ | exact mo_mul_lt _ _ | exact mo_shl_lt _ _ | exact mo_ushr_lt _ _ | exact mo_or_lt (by decide) (mo_and_lt (mo_rd_lt _ _)) | exact mo_or_lt (mo_shl_lt _ _) (mo_and_lt (mo_rd_lt _ _)))) sy_oks_nil))) rfl rfl ?_
  show sy_F 130 n 0 0 0 [(2, pl 0, 0), (0, 1, 0), (0, v, 0)] [] w _
  refine sy_Fs (sy_aldn xc130_0 rfl rfl sy_refl) ?_
  refine sy_Fs (sy_gf xc130_1 xf130_406 rfl (wh_at hw 0 rfl) rfl (fh_at hX0 28 rfl rfl) sy_refl) ?_
  refine sy_Fs (sy_bipush (v := 80) xc130_4 (by decide) (by decide) sy_refl) ?_
  refine sy_Fs (sy_ildn xc130_6 rfl rfl sy_refl) ?_
  refine sy_Fs (sx_imul (z := 80) xc130_7 (by decide)) ?_
  refine sy_Fs (sy_aldn xc130_8 rfl rfl sy_refl) ?_
  refine sy_Fs (sy_gf xc130_9 xf130_619 rfl (wh_at hw 0 rfl) rfl (fh_at hX0 37 rfl rfl) sy_refl) ?_
  refine sy_Fs (sy_bipush (v := 8) xc130_12 (by decide) (by decide) sy_refl) ?_
  refine sy_Fs (sx_idiv (z := 1) xc130_14 (by decide) (by decide)) ?_
  refine sy_Fs (sx_iadd (z := 81) xc130_15 (by decide)) ?_
  refine sy_Fs (sy_aldn xc130_16 rfl rfl sy_refl) ?_
  refine sy_Fs (sy_gf xc130_17 xf130_406 rfl (wh_at hw 0 rfl) rfl (fh_at hX0 28 rfl rfl) sy_refl) ?_
  refine sy_Fs (sy_bipush (v := 80) xc130_20 (by decide) (by decide) sy_refl) ?_
  refine sy_Fs (sy_ildn xc130_22 rfl rfl sy_refl) ?_
  refine sy_Fs (sx_imul (z := 80) xc130_23 (by decide)) ?_
  refine sy_Fs (sy_aldn xc130_24 rfl rfl sy_refl) ?_
  refine sy_Fs (sy_gf xc130_25 xf130_619 rfl (wh_at hw 0 rfl) rfl (fh_at hX0 37 rfl rfl) sy_refl) ?_
  refine sy_Fs (sy_bipush (v := 8) xc130_28 (by decide) (by decide) sy_refl) ?_
  refine sy_Fs (sx_idiv (z := 1) xc130_30 (by decide) (by decide)) ?_
  refine sy_Fs (sx_iadd (z := 81) xc130_31 (by decide)) ?_
  refine sy_Fs (sx_bal (z := (mv_rd 32 Fl 81)) xc130_32 (wh_at hw 26 rfl) (by decide) (by decide) rfl) ?_
  refine sy_Fs (sy_ildn xc130_33 rfl rfl sy_refl) ?_
  refine sy_Fs (sy_bipush (v := 7) xc130_34 (by decide) (by decide) sy_refl) ?_
  refine sy_Fs (sy_aldn xc130_36 rfl rfl sy_refl) ?_
  refine sy_Fs (sy_gf xc130_37 xf130_619 rfl (wh_at hw 0 rfl) rfl (fh_at hX0 37 rfl rfl) sy_refl) ?_
  refine sy_Fs (sy_bipush (v := 8) xc130_40 (by decide) (by decide) sy_refl) ?_
  refine sy_Fs (sx_irem (z := 4) xc130_42 (by decide) (by decide)) ?_
  refine sy_Fs (sx_isub (z := 3) xc130_43 (by decide)) ?_
  refine sy_Fs (sx_ishl (z := (mo_shl v 3)) xc130_44 rfl) ?_
  refine sy_Fs (sx_ior (z := (mo_or (mv_rd 32 Fl 81) (mo_shl v 3))) xc130_45 rfl) ?_
  refine sy_Fs (sx_i2b (z := (mn_b (mo_or (mv_rd 32 Fl 81) (mo_shl v 3)))) xc130_46 rfl) ?_
  refine sy_Fw (i := 26) (x := (1, 1, 3200, (fb Fl v 3))) hw (by decide) (sy_bas (i := 81) xc130_47 (wh_at hw 26 rfl) rfl (by decide) (by decide) rfl sy_refl) ?_
  intro w hw
  simp only [List.set_cons_zero, List.set_cons_succ] at hw
  refine sy_Fs (sy_aldn xc130_48 rfl rfl sy_refl) ?_
  refine sy_Fs (sy_dup xc130_49 rfl sy_refl) ?_
  refine sy_Fs (sy_gf xc130_50 xf130_619 rfl (wh_at hw 0 rfl) rfl (fh_at hX0 37 rfl rfl) sy_refl) ?_
  refine sy_Fs (sy_iconst (v := 1) xc130_53 (by decide) sy_refl) ?_
  refine sy_Fs (sx_iadd (z := 13) xc130_54 (by decide)) ?_
  refine sy_Ff (i := 0) (q := 37) (v := (0, 13, 0)) hw hX0 (by decide) (by decide) rfl (sy_ok0 (by first | decide | assumption | omega | exact mo_rd_lt _ _ | exact mo_add_lt _ _ | exact mo_sub_lt _ _ | exact mo_mul_lt _ _ | exact mo_shl_lt _ _ | exact mo_ushr_lt _ _ | exact mo_or_lt (by decide) (mo_and_lt (mo_rd_lt _ _)) | exact mo_or_lt (mo_shl_lt _ _) (mo_and_lt (mo_rd_lt _ _)))) (sy_pfi xc130_55 xf130_619 rfl xt0_61 xn0_61 (wh_at hw 0 rfl) rfl (by first | decide | assumption | omega | exact mo_rd_lt _ _ | exact mo_add_lt _ _ | exact mo_sub_lt _ _ | exact mo_mul_lt _ _ | exact mo_shl_lt _ _ | exact mo_ushr_lt _ _ | exact mo_or_lt (by decide) (mo_and_lt (mo_rd_lt _ _)) | exact mo_or_lt (mo_shl_lt _ _) (mo_and_lt (mo_rd_lt _ _))) rfl sy_refl) ?_
  intro w X0 hw hX0
  simp only [List.set_cons_zero, List.set_cons_succ] at hw hX0
  exact sy_Fv xc130_58 xr130 ⟨rfl, _, hw, hX0⟩
theorem wq_bit13 (hw : wh 32 pl w0 w [(0, 0, 107, X0), (1, 1, 64, Pc), (1, 0, 64, mc_K), (1, 0, 64, Wd), (1, 0, 8, Vv), (1, 0, 8, St), (1, 0, 8, Af), (1, 1, 32, Mi), (1, 1, 4200, Hd), (1, 1, 1280, Bi), (1, 0, 40, Bf), (1, 0, 40, Hg), (1, 0, 40, Tm), (1, 0, 40, Bo), (1, 0, 40, Wk), (1, 0, 40, Pn), (1, 0, 40, Bs), (1, 1, 28, Mt), (1, 0, 160, Pst), (1, 0, 160, Ppl), (1, 0, 160, Psz), (1, 1, 76000, Bb), (1, 1, 5120, Pid), (1, 1, 600, So), (1, 0, 960, Fn), (1, 0, 40, Fc), (1, 1, 3200, Fl), (1, 0, 40, Fs), (1, 1, 32, Ou), (1, 1, 2400, Ly), (1, 0, 40, No), (1, 1, 20, Bu)]) (hX0 : fh X0 jQ [(0, th, 0), (2, pl 1, 0), (2, pl 2, 0), (2, pl 3, 0), (2, pl 4, 0), (2, pl 5, 0), (2, pl 6, 0), (2, pl 7, 0), (0, up, 0), (1, lp, 0), (2, pl 8, 0), (2, pl 9, 0), (2, pl 10, 0), (2, pl 11, 0), (2, pl 12, 0), (2, pl 13, 0), (2, pl 14, 0), (2, pl 15, 0), (2, pl 16, 0), (2, pl 17, 0), (2, pl 18, 0), (2, pl 19, 0), (2, pl 20, 0), (2, pl 21, 0), (2, pl 22, 0), (2, pl 23, 0), (2, pl 24, 0), (2, pl 25, 0), (2, pl 26, 0), (2, pl 27, 0), (2, pl 28, 0), (2, pl 29, 0), (2, pl 30, 0), (2, pl 31, 0), (0, 1, 0), (0, 0, 0), (0, sc, 0), (0, 13, 0), (0, 0, 0)]) {v : Nat} (hv : v < 4294967296) : sy_D 130 n 0 0 [(2, pl 0, 0), (0, 1, 0), (0, v, 0)] w (fun ret w' => ret = [] ∧ ∃ Y0 : Nat, wh 32 pl w0 w' [(0, 0, 107, Y0), (1, 1, 64, Pc), (1, 0, 64, mc_K), (1, 0, 64, Wd), (1, 0, 8, Vv), (1, 0, 8, St), (1, 0, 8, Af), (1, 1, 32, Mi), (1, 1, 4200, Hd), (1, 1, 1280, Bi), (1, 0, 40, Bf), (1, 0, 40, Hg), (1, 0, 40, Tm), (1, 0, 40, Bo), (1, 0, 40, Wk), (1, 0, 40, Pn), (1, 0, 40, Bs), (1, 1, 28, Mt), (1, 0, 160, Pst), (1, 0, 160, Ppl), (1, 0, 160, Psz), (1, 1, 76000, Bb), (1, 1, 5120, Pid), (1, 1, 600, So), (1, 0, 960, Fn), (1, 0, 40, Fc), (1, 1, 3200, (fb Fl v 2)), (1, 0, 40, Fs), (1, 1, 32, Ou), (1, 1, 2400, Ly), (1, 0, 40, No), (1, 1, 20, Bu)] ∧ fh Y0 jQ [(0, th, 0), (2, pl 1, 0), (2, pl 2, 0), (2, pl 3, 0), (2, pl 4, 0), (2, pl 5, 0), (2, pl 6, 0), (2, pl 7, 0), (0, up, 0), (1, lp, 0), (2, pl 8, 0), (2, pl 9, 0), (2, pl 10, 0), (2, pl 11, 0), (2, pl 12, 0), (2, pl 13, 0), (2, pl 14, 0), (2, pl 15, 0), (2, pl 16, 0), (2, pl 17, 0), (2, pl 18, 0), (2, pl 19, 0), (2, pl 20, 0), (2, pl 21, 0), (2, pl 22, 0), (2, pl 23, 0), (2, pl 24, 0), (2, pl 25, 0), (2, pl 26, 0), (2, pl 27, 0), (2, pl 28, 0), (2, pl 29, 0), (2, pl 30, 0), (2, pl 31, 0), (0, 1, 0), (0, 0, 0), (0, sc, 0), (0, 14, 0), (0, 0, 0)]) := by
  refine sy_Dof (us := []) (sy_oks_cons (sy_ok2 (wh_lt hw 0 (by first | decide | assumption))) (sy_oks_cons (sy_ok0 (by first | decide | assumption | omega | exact mo_rd_lt _ _ | exact mo_add_lt _ _ | exact mo_sub_lt _ _ | exact mo_mul_lt _ _ | exact mo_shl_lt _ _ | exact mo_ushr_lt _ _ | exact mo_or_lt (by decide) (mo_and_lt (mo_rd_lt _ _)) | exact mo_or_lt (mo_shl_lt _ _) (mo_and_lt (mo_rd_lt _ _)))) (sy_oks_cons (sy_ok0 (by first | decide | assumption | omega | exact mo_rd_lt _ _ | exact mo_add_lt _ _ | exact mo_sub_lt _ _ | exact mo_mul_lt _ _ | exact mo_shl_lt _ _ | exact mo_ushr_lt _ _ | exact mo_or_lt (by decide) (mo_and_lt (mo_rd_lt _ _)) | exact mo_or_lt (mo_shl_lt _ _) (mo_and_lt (mo_rd_lt _ _)))) sy_oks_nil))) rfl rfl ?_
  show sy_F 130 n 0 0 0 [(2, pl 0, 0), (0, 1, 0), (0, v, 0)] [] w _
  refine sy_Fs (sy_aldn xc130_0 rfl rfl sy_refl) ?_
  refine sy_Fs (sy_gf xc130_1 xf130_406 rfl (wh_at hw 0 rfl) rfl (fh_at hX0 28 rfl rfl) sy_refl) ?_
  refine sy_Fs (sy_bipush (v := 80) xc130_4 (by decide) (by decide) sy_refl) ?_
  refine sy_Fs (sy_ildn xc130_6 rfl rfl sy_refl) ?_
  refine sy_Fs (sx_imul (z := 80) xc130_7 (by decide)) ?_
  refine sy_Fs (sy_aldn xc130_8 rfl rfl sy_refl) ?_
  refine sy_Fs (sy_gf xc130_9 xf130_619 rfl (wh_at hw 0 rfl) rfl (fh_at hX0 37 rfl rfl) sy_refl) ?_
  refine sy_Fs (sy_bipush (v := 8) xc130_12 (by decide) (by decide) sy_refl) ?_
  refine sy_Fs (sx_idiv (z := 1) xc130_14 (by decide) (by decide)) ?_
  refine sy_Fs (sx_iadd (z := 81) xc130_15 (by decide)) ?_
  refine sy_Fs (sy_aldn xc130_16 rfl rfl sy_refl) ?_
  refine sy_Fs (sy_gf xc130_17 xf130_406 rfl (wh_at hw 0 rfl) rfl (fh_at hX0 28 rfl rfl) sy_refl) ?_
  refine sy_Fs (sy_bipush (v := 80) xc130_20 (by decide) (by decide) sy_refl) ?_
  refine sy_Fs (sy_ildn xc130_22 rfl rfl sy_refl) ?_
  refine sy_Fs (sx_imul (z := 80) xc130_23 (by decide)) ?_
  refine sy_Fs (sy_aldn xc130_24 rfl rfl sy_refl) ?_
  refine sy_Fs (sy_gf xc130_25 xf130_619 rfl (wh_at hw 0 rfl) rfl (fh_at hX0 37 rfl rfl) sy_refl) ?_
  refine sy_Fs (sy_bipush (v := 8) xc130_28 (by decide) (by decide) sy_refl) ?_
  refine sy_Fs (sx_idiv (z := 1) xc130_30 (by decide) (by decide)) ?_
  refine sy_Fs (sx_iadd (z := 81) xc130_31 (by decide)) ?_
  refine sy_Fs (sx_bal (z := (mv_rd 32 Fl 81)) xc130_32 (wh_at hw 26 rfl) (by decide) (by decide) rfl) ?_
  refine sy_Fs (sy_ildn xc130_33 rfl rfl sy_refl) ?_
  refine sy_Fs (sy_bipush (v := 7) xc130_34 (by decide) (by decide) sy_refl) ?_
  refine sy_Fs (sy_aldn xc130_36 rfl rfl sy_refl) ?_
  refine sy_Fs (sy_gf xc130_37 xf130_619 rfl (wh_at hw 0 rfl) rfl (fh_at hX0 37 rfl rfl) sy_refl) ?_
  refine sy_Fs (sy_bipush (v := 8) xc130_40 (by decide) (by decide) sy_refl) ?_
  refine sy_Fs (sx_irem (z := 5) xc130_42 (by decide) (by decide)) ?_
  refine sy_Fs (sx_isub (z := 2) xc130_43 (by decide)) ?_
  refine sy_Fs (sx_ishl (z := (mo_shl v 2)) xc130_44 rfl) ?_
  refine sy_Fs (sx_ior (z := (mo_or (mv_rd 32 Fl 81) (mo_shl v 2))) xc130_45 rfl) ?_
  refine sy_Fs (sx_i2b (z := (mn_b (mo_or (mv_rd 32 Fl 81) (mo_shl v 2)))) xc130_46 rfl) ?_
  refine sy_Fw (i := 26) (x := (1, 1, 3200, (fb Fl v 2))) hw (by decide) (sy_bas (i := 81) xc130_47 (wh_at hw 26 rfl) rfl (by decide) (by decide) rfl sy_refl) ?_
  intro w hw
  simp only [List.set_cons_zero, List.set_cons_succ] at hw
  refine sy_Fs (sy_aldn xc130_48 rfl rfl sy_refl) ?_
  refine sy_Fs (sy_dup xc130_49 rfl sy_refl) ?_
  refine sy_Fs (sy_gf xc130_50 xf130_619 rfl (wh_at hw 0 rfl) rfl (fh_at hX0 37 rfl rfl) sy_refl) ?_
  refine sy_Fs (sy_iconst (v := 1) xc130_53 (by decide) sy_refl) ?_
  refine sy_Fs (sx_iadd (z := 14) xc130_54 (by decide)) ?_
  refine sy_Ff (i := 0) (q := 37) (v := (0, 14, 0)) hw hX0 (by decide) (by decide) rfl (sy_ok0 (by first | decide | assumption | omega | exact mo_rd_lt _ _ | exact mo_add_lt _ _ | exact mo_sub_lt _ _ | exact mo_mul_lt _ _ | exact mo_shl_lt _ _ | exact mo_ushr_lt _ _ | exact mo_or_lt (by decide) (mo_and_lt (mo_rd_lt _ _)) | exact mo_or_lt (mo_shl_lt _ _) (mo_and_lt (mo_rd_lt _ _)))) (sy_pfi xc130_55 xf130_619 rfl xt0_61 xn0_61 (wh_at hw 0 rfl) rfl (by first | decide | assumption | omega | exact mo_rd_lt _ _ | exact mo_add_lt _ _ | exact mo_sub_lt _ _ | exact mo_mul_lt _ _ | exact mo_shl_lt _ _ | exact mo_ushr_lt _ _ | exact mo_or_lt (by decide) (mo_and_lt (mo_rd_lt _ _)) | exact mo_or_lt (mo_shl_lt _ _) (mo_and_lt (mo_rd_lt _ _))) rfl sy_refl) ?_
  intro w X0 hw hX0
  simp only [List.set_cons_zero, List.set_cons_succ] at hw hX0
  exact sy_Fv xc130_58 xr130 ⟨rfl, _, hw, hX0⟩
theorem wq_bit14 (hw : wh 32 pl w0 w [(0, 0, 107, X0), (1, 1, 64, Pc), (1, 0, 64, mc_K), (1, 0, 64, Wd), (1, 0, 8, Vv), (1, 0, 8, St), (1, 0, 8, Af), (1, 1, 32, Mi), (1, 1, 4200, Hd), (1, 1, 1280, Bi), (1, 0, 40, Bf), (1, 0, 40, Hg), (1, 0, 40, Tm), (1, 0, 40, Bo), (1, 0, 40, Wk), (1, 0, 40, Pn), (1, 0, 40, Bs), (1, 1, 28, Mt), (1, 0, 160, Pst), (1, 0, 160, Ppl), (1, 0, 160, Psz), (1, 1, 76000, Bb), (1, 1, 5120, Pid), (1, 1, 600, So), (1, 0, 960, Fn), (1, 0, 40, Fc), (1, 1, 3200, Fl), (1, 0, 40, Fs), (1, 1, 32, Ou), (1, 1, 2400, Ly), (1, 0, 40, No), (1, 1, 20, Bu)]) (hX0 : fh X0 jQ [(0, th, 0), (2, pl 1, 0), (2, pl 2, 0), (2, pl 3, 0), (2, pl 4, 0), (2, pl 5, 0), (2, pl 6, 0), (2, pl 7, 0), (0, up, 0), (1, lp, 0), (2, pl 8, 0), (2, pl 9, 0), (2, pl 10, 0), (2, pl 11, 0), (2, pl 12, 0), (2, pl 13, 0), (2, pl 14, 0), (2, pl 15, 0), (2, pl 16, 0), (2, pl 17, 0), (2, pl 18, 0), (2, pl 19, 0), (2, pl 20, 0), (2, pl 21, 0), (2, pl 22, 0), (2, pl 23, 0), (2, pl 24, 0), (2, pl 25, 0), (2, pl 26, 0), (2, pl 27, 0), (2, pl 28, 0), (2, pl 29, 0), (2, pl 30, 0), (2, pl 31, 0), (0, 1, 0), (0, 0, 0), (0, sc, 0), (0, 14, 0), (0, 0, 0)]) {v : Nat} (hv : v < 4294967296) : sy_D 130 n 0 0 [(2, pl 0, 0), (0, 1, 0), (0, v, 0)] w (fun ret w' => ret = [] ∧ ∃ Y0 : Nat, wh 32 pl w0 w' [(0, 0, 107, Y0), (1, 1, 64, Pc), (1, 0, 64, mc_K), (1, 0, 64, Wd), (1, 0, 8, Vv), (1, 0, 8, St), (1, 0, 8, Af), (1, 1, 32, Mi), (1, 1, 4200, Hd), (1, 1, 1280, Bi), (1, 0, 40, Bf), (1, 0, 40, Hg), (1, 0, 40, Tm), (1, 0, 40, Bo), (1, 0, 40, Wk), (1, 0, 40, Pn), (1, 0, 40, Bs), (1, 1, 28, Mt), (1, 0, 160, Pst), (1, 0, 160, Ppl), (1, 0, 160, Psz), (1, 1, 76000, Bb), (1, 1, 5120, Pid), (1, 1, 600, So), (1, 0, 960, Fn), (1, 0, 40, Fc), (1, 1, 3200, (fb Fl v 1)), (1, 0, 40, Fs), (1, 1, 32, Ou), (1, 1, 2400, Ly), (1, 0, 40, No), (1, 1, 20, Bu)] ∧ fh Y0 jQ [(0, th, 0), (2, pl 1, 0), (2, pl 2, 0), (2, pl 3, 0), (2, pl 4, 0), (2, pl 5, 0), (2, pl 6, 0), (2, pl 7, 0), (0, up, 0), (1, lp, 0), (2, pl 8, 0), (2, pl 9, 0), (2, pl 10, 0), (2, pl 11, 0), (2, pl 12, 0), (2, pl 13, 0), (2, pl 14, 0), (2, pl 15, 0), (2, pl 16, 0), (2, pl 17, 0), (2, pl 18, 0), (2, pl 19, 0), (2, pl 20, 0), (2, pl 21, 0), (2, pl 22, 0), (2, pl 23, 0), (2, pl 24, 0), (2, pl 25, 0), (2, pl 26, 0), (2, pl 27, 0), (2, pl 28, 0), (2, pl 29, 0), (2, pl 30, 0), (2, pl 31, 0), (0, 1, 0), (0, 0, 0), (0, sc, 0), (0, 15, 0), (0, 0, 0)]) := by
  refine sy_Dof (us := []) (sy_oks_cons (sy_ok2 (wh_lt hw 0 (by first | decide | assumption))) (sy_oks_cons (sy_ok0 (by first | decide | assumption | omega | exact mo_rd_lt _ _ | exact mo_add_lt _ _ | exact mo_sub_lt _ _ | exact mo_mul_lt _ _ | exact mo_shl_lt _ _ | exact mo_ushr_lt _ _ | exact mo_or_lt (by decide) (mo_and_lt (mo_rd_lt _ _)) | exact mo_or_lt (mo_shl_lt _ _) (mo_and_lt (mo_rd_lt _ _)))) (sy_oks_cons (sy_ok0 (by first | decide | assumption | omega | exact mo_rd_lt _ _ | exact mo_add_lt _ _ | exact mo_sub_lt _ _ | exact mo_mul_lt _ _ | exact mo_shl_lt _ _ | exact mo_ushr_lt _ _ | exact mo_or_lt (by decide) (mo_and_lt (mo_rd_lt _ _)) | exact mo_or_lt (mo_shl_lt _ _) (mo_and_lt (mo_rd_lt _ _)))) sy_oks_nil))) rfl rfl ?_
  show sy_F 130 n 0 0 0 [(2, pl 0, 0), (0, 1, 0), (0, v, 0)] [] w _
  refine sy_Fs (sy_aldn xc130_0 rfl rfl sy_refl) ?_
  refine sy_Fs (sy_gf xc130_1 xf130_406 rfl (wh_at hw 0 rfl) rfl (fh_at hX0 28 rfl rfl) sy_refl) ?_
  refine sy_Fs (sy_bipush (v := 80) xc130_4 (by decide) (by decide) sy_refl) ?_
  refine sy_Fs (sy_ildn xc130_6 rfl rfl sy_refl) ?_
  refine sy_Fs (sx_imul (z := 80) xc130_7 (by decide)) ?_
  refine sy_Fs (sy_aldn xc130_8 rfl rfl sy_refl) ?_
  refine sy_Fs (sy_gf xc130_9 xf130_619 rfl (wh_at hw 0 rfl) rfl (fh_at hX0 37 rfl rfl) sy_refl) ?_
  refine sy_Fs (sy_bipush (v := 8) xc130_12 (by decide) (by decide) sy_refl) ?_
  refine sy_Fs (sx_idiv (z := 1) xc130_14 (by decide) (by decide)) ?_
  refine sy_Fs (sx_iadd (z := 81) xc130_15 (by decide)) ?_
  refine sy_Fs (sy_aldn xc130_16 rfl rfl sy_refl) ?_
  refine sy_Fs (sy_gf xc130_17 xf130_406 rfl (wh_at hw 0 rfl) rfl (fh_at hX0 28 rfl rfl) sy_refl) ?_
  refine sy_Fs (sy_bipush (v := 80) xc130_20 (by decide) (by decide) sy_refl) ?_
  refine sy_Fs (sy_ildn xc130_22 rfl rfl sy_refl) ?_
  refine sy_Fs (sx_imul (z := 80) xc130_23 (by decide)) ?_
  refine sy_Fs (sy_aldn xc130_24 rfl rfl sy_refl) ?_
  refine sy_Fs (sy_gf xc130_25 xf130_619 rfl (wh_at hw 0 rfl) rfl (fh_at hX0 37 rfl rfl) sy_refl) ?_
  refine sy_Fs (sy_bipush (v := 8) xc130_28 (by decide) (by decide) sy_refl) ?_
  refine sy_Fs (sx_idiv (z := 1) xc130_30 (by decide) (by decide)) ?_
  refine sy_Fs (sx_iadd (z := 81) xc130_31 (by decide)) ?_
  refine sy_Fs (sx_bal (z := (mv_rd 32 Fl 81)) xc130_32 (wh_at hw 26 rfl) (by decide) (by decide) rfl) ?_
  refine sy_Fs (sy_ildn xc130_33 rfl rfl sy_refl) ?_
  refine sy_Fs (sy_bipush (v := 7) xc130_34 (by decide) (by decide) sy_refl) ?_
  refine sy_Fs (sy_aldn xc130_36 rfl rfl sy_refl) ?_
  refine sy_Fs (sy_gf xc130_37 xf130_619 rfl (wh_at hw 0 rfl) rfl (fh_at hX0 37 rfl rfl) sy_refl) ?_
  refine sy_Fs (sy_bipush (v := 8) xc130_40 (by decide) (by decide) sy_refl) ?_
  refine sy_Fs (sx_irem (z := 6) xc130_42 (by decide) (by decide)) ?_
  refine sy_Fs (sx_isub (z := 1) xc130_43 (by decide)) ?_
  refine sy_Fs (sx_ishl (z := (mo_shl v 1)) xc130_44 rfl) ?_
  refine sy_Fs (sx_ior (z := (mo_or (mv_rd 32 Fl 81) (mo_shl v 1))) xc130_45 rfl) ?_
  refine sy_Fs (sx_i2b (z := (mn_b (mo_or (mv_rd 32 Fl 81) (mo_shl v 1)))) xc130_46 rfl) ?_
  refine sy_Fw (i := 26) (x := (1, 1, 3200, (fb Fl v 1))) hw (by decide) (sy_bas (i := 81) xc130_47 (wh_at hw 26 rfl) rfl (by decide) (by decide) rfl sy_refl) ?_
  intro w hw
  simp only [List.set_cons_zero, List.set_cons_succ] at hw
  refine sy_Fs (sy_aldn xc130_48 rfl rfl sy_refl) ?_
  refine sy_Fs (sy_dup xc130_49 rfl sy_refl) ?_
  refine sy_Fs (sy_gf xc130_50 xf130_619 rfl (wh_at hw 0 rfl) rfl (fh_at hX0 37 rfl rfl) sy_refl) ?_
  refine sy_Fs (sy_iconst (v := 1) xc130_53 (by decide) sy_refl) ?_
  refine sy_Fs (sx_iadd (z := 15) xc130_54 (by decide)) ?_
  refine sy_Ff (i := 0) (q := 37) (v := (0, 15, 0)) hw hX0 (by decide) (by decide) rfl (sy_ok0 (by first | decide | assumption | omega | exact mo_rd_lt _ _ | exact mo_add_lt _ _ | exact mo_sub_lt _ _ | exact mo_mul_lt _ _ | exact mo_shl_lt _ _ | exact mo_ushr_lt _ _ | exact mo_or_lt (by decide) (mo_and_lt (mo_rd_lt _ _)) | exact mo_or_lt (mo_shl_lt _ _) (mo_and_lt (mo_rd_lt _ _)))) (sy_pfi xc130_55 xf130_619 rfl xt0_61 xn0_61 (wh_at hw 0 rfl) rfl (by first | decide | assumption | omega | exact mo_rd_lt _ _ | exact mo_add_lt _ _ | exact mo_sub_lt _ _ | exact mo_mul_lt _ _ | exact mo_shl_lt _ _ | exact mo_ushr_lt _ _ | exact mo_or_lt (by decide) (mo_and_lt (mo_rd_lt _ _)) | exact mo_or_lt (mo_shl_lt _ _) (mo_and_lt (mo_rd_lt _ _))) rfl sy_refl) ?_
  intro w X0 hw hX0
  simp only [List.set_cons_zero, List.set_cons_succ] at hw hX0
  exact sy_Fv xc130_58 xr130 ⟨rfl, _, hw, hX0⟩
end QS
