/-! HASH(0, i), FOR EVERY TAPE -/
theorem xc27_0 : tt_cd 27 0 = (1, .iload_n 1, 1) := by decide +kernel
theorem xc27_1 : tt_cd 27 1 = (5, .ifCond .lt 11, 3) := by decide +kernel
theorem xc27_4 : tt_cd 27 4 = (1, .iload_n 1, 1) := by decide +kernel
theorem xc27_5 : tt_cd 27 5 = (1, .aload_n 0, 1) := by decide +kernel
theorem xc27_6 : tt_cd 27 6 = (3, .arraylength, 1) := by decide +kernel
theorem xc27_7 : tt_cd 27 7 = (2, .iconst 4, 1) := by decide +kernel
theorem xc27_8 : tt_cd 27 8 = (2, .isub, 1) := by decide +kernel
theorem xc27_9 : tt_cd 27 9 = (5, .if_icmp .le 5, 3) := by decide +kernel
theorem xc27_14 : tt_cd 27 14 = (1, .aload_n 0, 1) := by decide +kernel
theorem xc27_15 : tt_cd 27 15 = (1, .iload_n 1, 1) := by decide +kernel
theorem xc27_16 : tt_cd 27 16 = (3, .baload, 1) := by decide +kernel
theorem xc27_17 : tt_cd 27 17 = (4, .bipush 24, 2) := by decide +kernel
theorem xc27_19 : tt_cd 27 19 = (2, .ishl, 1) := by decide +kernel
theorem xc27_20 : tt_cd 27 20 = (1, .aload_n 0, 1) := by decide +kernel
theorem xc27_21 : tt_cd 27 21 = (1, .iload_n 1, 1) := by decide +kernel
theorem xc27_22 : tt_cd 27 22 = (2, .iconst 1, 1) := by decide +kernel
theorem xc27_23 : tt_cd 27 23 = (2, .iadd, 1) := by decide +kernel
theorem xc27_24 : tt_cd 27 24 = (3, .baload, 1) := by decide +kernel
theorem xc27_25 : tt_cd 27 25 = (4, .sipush 255, 3) := by decide +kernel
theorem xc27_28 : tt_cd 27 28 = (2, .iand, 1) := by decide +kernel
theorem xc27_29 : tt_cd 27 29 = (4, .bipush 16, 2) := by decide +kernel
theorem xc27_31 : tt_cd 27 31 = (2, .ishl, 1) := by decide +kernel
theorem xc27_32 : tt_cd 27 32 = (2, .ior, 1) := by decide +kernel
theorem xc27_33 : tt_cd 27 33 = (1, .aload_n 0, 1) := by decide +kernel
theorem xc27_34 : tt_cd 27 34 = (1, .iload_n 1, 1) := by decide +kernel
theorem xc27_35 : tt_cd 27 35 = (2, .iconst 2, 1) := by decide +kernel
theorem xc27_36 : tt_cd 27 36 = (2, .iadd, 1) := by decide +kernel
theorem xc27_37 : tt_cd 27 37 = (3, .baload, 1) := by decide +kernel
theorem xc27_38 : tt_cd 27 38 = (4, .sipush 255, 3) := by decide +kernel
theorem xc27_41 : tt_cd 27 41 = (2, .iand, 1) := by decide +kernel
theorem xc27_42 : tt_cd 27 42 = (4, .bipush 8, 2) := by decide +kernel
theorem xc27_44 : tt_cd 27 44 = (2, .ishl, 1) := by decide +kernel
theorem xc27_45 : tt_cd 27 45 = (2, .ior, 1) := by decide +kernel
theorem xc27_46 : tt_cd 27 46 = (1, .aload_n 0, 1) := by decide +kernel
theorem xc27_47 : tt_cd 27 47 = (1, .iload_n 1, 1) := by decide +kernel
theorem xc27_48 : tt_cd 27 48 = (2, .iconst 3, 1) := by decide +kernel
theorem xc27_49 : tt_cd 27 49 = (2, .iadd, 1) := by decide +kernel
theorem xc27_50 : tt_cd 27 50 = (3, .baload, 1) := by decide +kernel
theorem xc27_51 : tt_cd 27 51 = (4, .sipush 255, 3) := by decide +kernel
theorem xc27_54 : tt_cd 27 54 = (2, .iand, 1) := by decide +kernel
theorem xc27_55 : tt_cd 27 55 = (2, .ior, 1) := by decide +kernel
theorem xc27_56 : tt_cd 27 56 = (9, .ireturn, 1) := by decide +kernel
theorem xr27 : tt_mr 27 = 1 := by decide +kernel
theorem xc108_0 : tt_cd 108 0 = (2, .iconst 0, 1) := by decide +kernel
theorem xc108_1 : tt_cd 108 1 = (1, .istore_n 2, 1) := by decide +kernel
theorem xl108 : tt_mL 108 = 4 := by decide +kernel
theorem xc108_2 : tt_cd 108 2 = (2, .iconst 0, 1) := by decide +kernel
theorem xc108_3 : tt_cd 108 3 = (1, .istore_n 3, 1) := by decide +kernel
theorem xc108_4 : tt_cd 108 4 = (1, .iload_n 3, 1) := by decide +kernel
theorem xc108_5 : tt_cd 108 5 = (2, .iconst 4, 1) := by decide +kernel
theorem xc108_6 : tt_cd 108 6 = (5, .if_icmp .ge 24, 3) := by decide +kernel
theorem xc108_9 : tt_cd 108 9 = (1, .iload_n 2, 1) := by decide +kernel
theorem xc108_10 : tt_cd 108 10 = (4, .bipush 8, 2) := by decide +kernel
theorem xc108_12 : tt_cd 108 12 = (2, .ishl, 1) := by decide +kernel
theorem xc108_13 : tt_cd 108 13 = (1, .aload_n 0, 1) := by decide +kernel
theorem xc108_14 : tt_cd 108 14 = (1, .iload_n 1, 1) := by decide +kernel
theorem xc108_15 : tt_cd 108 15 = (1, .iload_n 3, 1) := by decide +kernel
theorem xc108_16 : tt_cd 108 16 = (2, .iadd, 1) := by decide +kernel
theorem xc108_17 : tt_cd 108 17 = (3, .baload, 1) := by decide +kernel
theorem xc108_18 : tt_cd 108 18 = (4, .sipush 255, 3) := by decide +kernel
theorem xc108_21 : tt_cd 108 21 = (2, .iand, 1) := by decide +kernel
theorem xc108_22 : tt_cd 108 22 = (2, .ior, 1) := by decide +kernel
theorem xc108_23 : tt_cd 108 23 = (1, .istore_n 2, 1) := by decide +kernel
theorem xc108_24 : tt_cd 108 24 = (1, .iinc 3 1, 3) := by decide +kernel
theorem xc108_27 : tt_cd 108 27 = (5, .goto (-23), 3) := by decide +kernel
theorem xc108_30 : tt_cd 108 30 = (1, .iload_n 2, 1) := by decide +kernel
theorem xc108_31 : tt_cd 108 31 = (9, .ireturn, 1) := by decide +kernel
theorem xr108 : tt_mr 108 = 1 := by decide +kernel
theorem xc57_0 : tt_cd 57 0 = (1, .iload_n 1, 1) := by decide +kernel
theorem xc57_1 : tt_cd 57 1 = (5, .ifCond .lt 18, 3) := by decide +kernel
theorem xc57_4 : tt_cd 57 4 = (1, .iload_n 1, 1) := by decide +kernel
theorem xc57_5 : tt_cd 57 5 = (2, .iconst 1, 1) := by decide +kernel
theorem xc57_6 : tt_cd 57 6 = (5, .if_icmp .gt 13, 3) := by decide +kernel
theorem xc57_9 : tt_cd 57 9 = (1, .iload_n 2, 1) := by decide +kernel
theorem xc57_10 : tt_cd 57 10 = (5, .ifCond .lt 9, 3) := by decide +kernel
theorem xc57_13 : tt_cd 57 13 = (1, .iload_n 2, 1) := by decide +kernel
theorem xc57_14 : tt_cd 57 14 = (4, .bipush 8, 2) := by decide +kernel
theorem xc57_16 : tt_cd 57 16 = (5, .if_icmp .lt 5, 3) := by decide +kernel
theorem xc57_21 : tt_cd 57 21 = (1, .iload_n 1, 1) := by decide +kernel
theorem xc57_22 : tt_cd 57 22 = (5, .ifCond .ne 34, 3) := by decide +kernel
theorem xc57_25 : tt_cd 57 25 = (1, .aload_n 0, 1) := by decide +kernel
theorem xc57_26 : tt_cd 57 26 = (3, .getfield 76, 3) := by decide +kernel
theorem xf57_76 : tt_fl 57 76 = (1, 1, 4) := by decide +kernel
theorem xc57_29 : tt_cd 57 29 = (1, .aload_n 0, 1) := by decide +kernel
theorem xc57_30 : tt_cd 57 30 = (3, .getfield 9, 3) := by decide +kernel
theorem xf57_9 : tt_fl 57 9 = (1, 1, 0) := by decide +kernel
theorem xc57_33 : tt_cd 57 33 = (2, .iconst 0, 1) := by decide +kernel
theorem xc57_34 : tt_cd 57 34 = (1, .aload_n 0, 1) := by decide +kernel
theorem xc57_35 : tt_cd 57 35 = (3, .getfield 103, 3) := by decide +kernel
theorem xf57_103 : tt_fl 57 103 = (1, 1, 1) := by decide +kernel
theorem xc57_38 : tt_cd 57 38 = (1, .aload_n 0, 1) := by decide +kernel
theorem xc57_39 : tt_cd 57 39 = (3, .getfield 13, 3) := by decide +kernel
theorem xf57_13 : tt_fl 57 13 = (1, 1, 2) := by decide +kernel
theorem xc57_42 : tt_cd 57 42 = (10, .invokevirtual 111, 3) := by decide +kernel
theorem xm57_111 : tt_ml 57 111 = (3, 13, 4) := by decide +kernel
theorem xi13 : tt_mci 13 = 2 := by decide +kernel
theorem xl13 : tt_mL 13 = 5 := by decide +kernel
theorem xc57_45 : tt_cd 57 45 = (1, .aload_n 0, 1) := by decide +kernel
theorem xc57_46 : tt_cd 57 46 = (3, .getfield 13, 3) := by decide +kernel
theorem xc57_49 : tt_cd 57 49 = (2, .iconst 4, 1) := by decide +kernel
theorem xc57_50 : tt_cd 57 50 = (1, .iload_n 2, 1) := by decide +kernel
theorem xc57_51 : tt_cd 57 51 = (2, .imul, 1) := by decide +kernel
theorem xc57_52 : tt_cd 57 52 = (10, .invokestatic 115, 3) := by decide +kernel
theorem xm57_115 : tt_ml 57 115 = (1, 27, 2) := by decide +kernel
theorem xl27 : tt_mL 27 = 2 := by decide +kernel
theorem xc57_55 : tt_cd 57 55 = (9, .ireturn, 1) := by decide +kernel
theorem xr57 : tt_mr 57 = 1 := by decide +kernel
theorem xc99_0 : tt_cd 99 0 = (1, .aload_n 0, 1) := by decide +kernel
theorem xc99_1 : tt_cd 99 1 = (2, .iconst 0, 1) := by decide +kernel
theorem xc99_2 : tt_cd 99 2 = (6, .putfield 1, 3) := by decide +kernel
theorem xf99_1 : tt_fl 99 1 = (1, 0, 0) := by decide +kernel
theorem xc99_5 : tt_cd 99 5 = (1, .iload_n 1, 1) := by decide +kernel
theorem xc99_6 : tt_cd 99 6 = (2, .i2l, 1) := by decide +kernel
theorem xc99_7 : tt_cd 99 7 = (2, .lconst 0, 1) := by decide +kernel
theorem xc99_8 : tt_cd 99 8 = (2, .lconst 1, 1) := by decide +kernel
theorem xc99_9 : tt_cd 99 9 = (10, .invokestatic 147, 3) := by decide +kernel
theorem xm99_147 : tt_ml 99 147 = (1, 98, 3) := by decide +kernel
theorem xc99_12 : tt_cd 99 12 = (5, .ifCond .eq 29, 3) := by decide +kernel
theorem xc99_15 : tt_cd 99 15 = (1, .iload_n 2, 1) := by decide +kernel
theorem xc99_16 : tt_cd 99 16 = (2, .i2l, 1) := by decide +kernel
theorem xc99_17 : tt_cd 99 17 = (2, .lconst 0, 1) := by decide +kernel
theorem xc99_18 : tt_cd 99 18 = (4, .ldc2_w 151, 3) := by decide +kernel
theorem xk99_151 : tt_kc 99 151 = (2, 7) := by decide +kernel
theorem xc99_21 : tt_cd 99 21 = (10, .invokestatic 147, 3) := by decide +kernel
theorem xc99_24 : tt_cd 99 24 = (5, .ifCond .eq 17, 3) := by decide +kernel
theorem xc99_27 : tt_cd 99 27 = (1, .iload_n 1, 1) := by decide +kernel
theorem xc99_28 : tt_cd 99 28 = (2, .iconst 1, 1) := by decide +kernel
theorem xc99_29 : tt_cd 99 29 = (5, .if_icmp .ne 14, 3) := by decide +kernel
theorem xc99_43 : tt_cd 99 43 = (1, .iload_n 1, 1) := by decide +kernel
theorem xc99_44 : tt_cd 99 44 = (5, .ifCond .ne 24, 3) := by decide +kernel
theorem xc99_47 : tt_cd 99 47 = (1, .aload_n 0, 1) := by decide +kernel
theorem xc99_48 : tt_cd 99 48 = (1, .aload_n 0, 1) := by decide +kernel
theorem xc99_49 : tt_cd 99 49 = (3, .getfield 141, 3) := by decide +kernel
theorem xf99_141 : tt_fl 99 141 = (1, 0, 16) := by decide +kernel
theorem xc99_52 : tt_cd 99 52 = (2, .iconst 0, 1) := by decide +kernel
theorem xc99_53 : tt_cd 99 53 = (1, .aload_n 0, 1) := by decide +kernel
theorem xc99_54 : tt_cd 99 54 = (3, .getfield 138, 3) := by decide +kernel
theorem xf99_138 : tt_fl 99 138 = (1, 0, 17) := by decide +kernel
theorem xc99_57 : tt_cd 99 57 = (1, .aload_n 0, 1) := by decide +kernel
theorem xc99_58 : tt_cd 99 58 = (3, .getfield 153, 3) := by decide +kernel
theorem xf99_153 : tt_fl 99 153 = (1, 0, 18) := by decide +kernel
theorem xc99_61 : tt_cd 99 61 = (2, .iconst 0, 1) := by decide +kernel
theorem xc99_62 : tt_cd 99 62 = (10, .invokevirtual 156, 3) := by decide +kernel
theorem xm99_156 : tt_ml 99 156 = (3, 100, 5) := by decide +kernel
theorem xi100 : tt_mci 100 = 0 := by decide +kernel
theorem xl100 : tt_mL 100 = 6 := by decide +kernel
theorem xc99_65 : tt_cd 99 65 = (5, .goto 30, 3) := by decide +kernel
theorem xc99_95 : tt_cd 99 95 = (1, .aload_n 0, 1) := by decide +kernel
theorem xc99_96 : tt_cd 99 96 = (3, .getfield 153, 3) := by decide +kernel
theorem xc99_99 : tt_cd 99 99 = (2, .iconst 4, 1) := by decide +kernel
theorem xc99_100 : tt_cd 99 100 = (1, .iload_n 2, 1) := by decide +kernel
theorem xc99_101 : tt_cd 99 101 = (2, .imul, 1) := by decide +kernel
theorem xc99_102 : tt_cd 99 102 = (10, .invokestatic 164, 3) := by decide +kernel
theorem xm99_164 : tt_ml 99 164 = (1, 108, 2) := by decide +kernel
theorem xc99_105 : tt_cd 99 105 = (9, .ireturn, 1) := by decide +kernel
theorem xr99 : tt_mr 99 = 1 := by decide +kernel
theorem mv_enc_dec {r k a : Nat} (hk : k ≤ 200) (h : mv_dec r = (k, a, 0)) : r = mv_enc (k, a, 0) := by
  have h1 : (r + 255) % 256 = k := congrArg (fun q => q.1) h
  have h2 : r / 256 % 18446744073709551616 = a := congrArg (fun q => q.2.1) h
  have h3 : r / 4722366482869645213696 = 0 := congrArg (fun q => q.2.2) h
  show r = k + 1 + 256 * a + 4722366482869645213696 * 0
  omega
def hS : List Nat := [2, 1, 0, 3, 11, 12]
def hC_ : List Nat := [4, 0, 1, 2]
def hM_ : List Nat := [0, 12, 7, 10, 11, 9, 8, 15, 13, 14, 16, 17, 18]
section CH
variable {n : Nat} {pl : Nat → Nat} {w0 w : mv_T 10} {cs : List mv_C} {vs : List mv_V} {X : Nat} {s : sh_T}
theorem wc_W (hw : wh 8 pl w0 w cs) (c17 : cs[3]? = some (0, 2, 13, X)) (c18 : cs[4]? = some (1, 1, 64, s.2.2.1)) (c19 : cs[5]? = some (1, 0, 64, s.2.2.2.1)) (c20 : cs[6]? = some (1, 0, 8, s.2.2.2.2)) (hX : fh X hS vs) (v0 : vs[0]? = some (2, pl 4, 0)) (v1 : vs[1]? = some (2, pl 5, 0)) (v2 : vs[2]? = some (2, pl 6, 0)) (v4 : vs[4]? = some (0, s.1, 0)) (v5 : vs[5]? = some (0, s.2.1, 0)) : sh_D (pl 3) (pl 4) (pl 5) (pl 6) ∧ mc_F X (pl 4) (pl 5) (pl 6) ∧ sh_W w (pl 3) (pl 4) (pl 5) (pl 6) X s = w := by
  have L : ∀ i, i < 8 → pl i < 1024 := fun i hi => wh_lt hw i hi
  have E : ∀ i j, i < 8 → j < 8 → i ≠ j → pl i ≠ pl j := fun i j hi hj e => wh_ne hw i j hi hj e
  refine ⟨⟨L 3 (by decide), L 4 (by decide), L 5 (by decide), L 6 (by decide), E 3 5 (by decide) (by decide) (by decide), E 3 6 (by decide) (by decide) (by decide), E 5 6 (by decide) (by decide) (by decide), E 4 3 (by decide) (by decide) (by decide), E 4 5 (by decide) (by decide) (by decide), E 4 6 (by decide) (by decide) (by decide)⟩, ⟨fh_at hX 2 rfl v2, fh_at hX 1 rfl v1, fh_at hX 0 rfl v0⟩, ?_⟩
  have x1 : sh_x X s.1 s.2.1 = X := by
    unfold sh_x
    have r1 := mv_enc_dec (by decide) (fh_at hX 4 (j := 11) rfl v4)
    have r2 := mv_enc_dec (by decide) (fh_at hX 5 (j := 12) rfl v5)
    have q1 : mv_wr 136 X 11 (mv_enc (0, s.1, 0)) = X := by
      refine mv_wr_rd ?_
      rw [← r1]
      exact (Nat.mod_eq_of_lt (mv_rd_lt 136 X _)).symm
    rw [q1]
    refine mv_wr_rd ?_
    rw [← r2]
    exact (Nat.mod_eq_of_lt (mv_rd_lt 136 X _)).symm
  show sh_w w (pl 3) (pl 4) (pl 5) (pl 6) (sh_x X s.1 s.2.1) s.2.2.1 s.2.2.2.1 s.2.2.2.2 = w
  rw [x1]
  unfold sh_w
  rw [mv_sg (L 4 (by decide)) (wh_at hw 4 c18)]
  unfold mc_w
  rw [mv_sg (L 3 (by decide)) (wh_at hw 3 c17), mv_sg (L 5 (by decide)) (wh_at hw 5 c19), mv_sg (L 6 (by decide)) (wh_at hw 6 c20)]
theorem wc_O (hw : wh 8 pl w0 w cs) (i : Nat) (hi : i < 8) (h1 : i < 3 ∨ 6 < i) : sh_O (pl 3) (pl 4) (pl 5) (pl 6) (pl i) := ⟨wh_lt hw i hi, wh_ne hw i 3 hi (by decide) (by omega), wh_ne hw i 4 hi (by decide) (by omega), wh_ne hw i 5 hi (by decide) (by omega), wh_ne hw i 6 hi (by decide) (by omega)⟩
theorem wc_wh {s' : sh_T} (hw : wh 8 pl w0 w cs) : wh 8 pl w0 (sh_W w (pl 3) (pl 4) (pl 5) (pl 6) X s') ((((cs.set 4 (1, 1, 64, s'.2.2.1)).set 3 (0, 2, 13, sh_x X s'.1 s'.2.1)).set 5 (1, 0, 64, s'.2.2.2.1)).set 6 (1, 0, 8, s'.2.2.2.2)) := by
  unfold sh_W sh_w mc_w
  exact wh_set (wh_set (wh_set (wh_set hw 4 (by decide) _) 3 (by decide) _) 5 (by decide) _) 6 (by decide) _
theorem wc_fh {u l : Nat} (hX : fh X hS vs) (hu : u < 4294967296) (hl : l < 4294967296) : fh (sh_x X u l) hS ((vs.set 4 (0, u, 0)).set 5 (0, l, 0)) := by
  unfold sh_x
  exact fh_set (fh_set hX (by decide) 4 rfl (sy_ok0 hu)) (by decide) 5 rfl (sy_ok0 hl)
theorem wc_eu (s : sh_T) : (sh_e s).1 = 0 := rfl
theorem wc_el (s : sh_T) : (sh_e s).2.1 = s.2.1 := by
  show (sh_e2 (sh_e1 s)).2.1 = s.2.1
  unfold sh_e2
  cases Nat.ble (sh_e1 s).1 56 <;> rfl
/-- hashOf -/
theorem wc_hash {it jf q T I qf C fa nn : Nat} {f : Nat → Nat} (hw : wh 8 pl w0 w cs) (c17 : cs[3]? = some (0, 2, 13, X)) (c18 : cs[4]? = some (1, 1, 64, s.2.2.1)) (c19 : cs[5]? = some (1, 0, 64, s.2.2.2.1)) (c20 : cs[6]? = some (1, 0, 8, s.2.2.2.2)) (hX : fh X hS vs) (v0 : vs[0]? = some (2, pl 4, 0)) (v1 : vs[1]? = some (2, pl 5, 0)) (v2 : vs[2]? = some (2, pl 6, 0)) (v4 : vs[4]? = some (0, s.1, 0)) (v5 : vs[5]? = some (0, s.2.1, 0)) (v3 : vs[3]? = some (2, pl 7, 0)) (c21 : cs[7]? = some (1, 1, 32, I)) (hit : it < 3) (ct : cs[it]? = some (1, 1, q, T)) (hq : q ≤ 2147483647) (ha : 0 + 32 ≤ q) (hjf : jf < 3) (cf : cs[jf]? = some (1, 1, qf, C)) (hqf : qf ≤ 2147483647) (hn : fa + nn ≤ qf) (hf : ∀ j, j < nn → mv_rd 32 C (fa + j) = f j) (hnn : nn < 1048576) : ∃ (w' : mv_T 10) (X' P' W' S' I' T' u' l' : Nat), sy_C 13 n 4 91 [(2, pl 3, 0), (2, pl jf, 0), (0, fa, 0), (0, nn, 0), (2, pl it, 0)] w [] w' ∧ wh 8 pl w0 w' (((((((cs.set 7 (1, 1, 32, I')).set it (1, 1, q, T')).set 4 (1, 1, 64, P')).set 3 (0, 2, 13, X')).set 5 (1, 0, 64, W')).set 6 (1, 0, 8, S'))) ∧ fh X' hS ((vs.set 4 (0, u', 0)).set 5 (0, l', 0)) ∧ ∀ j, mv_rd 32 T' j = if 0 ≤ j ∧ j < 0 + 32 then bk_D (hs_2 f nn) (j - 0) else mv_rd 32 T j := by
  obtain ⟨D, F, e⟩ := wc_W hw c17 c18 c19 c20 hX v0 v1 v2 v4 v5
  have h := sh_hash (n := n) (s := s) (w := w) D F (fh_at hX 3 rfl v3) (wc_O hw 7 (by decide) (Or.inr (by decide))) (wc_O hw it (by omega) (Or.inl hit)) (wh_ne hw 7 it (by decide) (by omega) (by omega)) (wh_at hw 7 c21) (wh_at hw it ct) hq ha (wc_O hw jf (by omega) (Or.inl hjf)) (wh_at hw jf cf) hqf hn
  rw [e] at h
  have hl : (sh_t (sh_h C fa nn s) I).1 < 4294967296 ∧ (sh_t (sh_h C fa nn s) I).2.1 < 4294967296 := by
    unfold sh_t
    refine ⟨by rw [wc_eu]; decide, ?_⟩
    rw [wc_el]
    exact mo_add_lt _ _
  have hT : ∀ j, mv_rd 32 (sh_o T 0 (sh_t (sh_h C fa nn s) I).2.2.2.2 8) j = if 0 ≤ j ∧ j < 0 + 32 then bk_D (hs_2 f nn) (j - 0) else mv_rd 32 T j := fun j => hs_cls hf hnn j
  generalize sh_t (sh_h C fa nn s) I = R at h hl hT
  generalize sh_i (sh_h C fa nn s) I = HI at h
  generalize sh_o T 0 R.2.2.2.2 8 = TT at h hT
  exact ⟨_, sh_x X R.1 R.2.1, R.2.2.1, R.2.2.2.1, R.2.2.2.2, HI, TT, R.1, R.2.1, h, wc_wh (s' := R) (wh_set (wh_set hw 7 (by decide) _) it (by omega) _), wc_fh hX hl.1 hl.2, hT⟩
end CH
section RH
variable {n : Nat} {pl : Nat → Nat} {w0 w : mv_T 10}
theorem wr_hash {cs : List mv_C} {vs : List mv_V} {X P Wd V St A Mi T C u l q qf at_ fa nn it jf : Nat} {f : Nat → Nat} (hw : wh 10 pl w0 w cs) (c0 : cs[0]? = some (0, 0, 107, X)) (c1 : cs[1]? = some (1, 1, 64, P)) (c2 : cs[2]? = some (1, 0, 64, mc_K)) (c3 : cs[3]? = some (1, 0, 64, Wd)) (c4 : cs[4]? = some (1, 0, 8, V)) (c5 : cs[5]? = some (1, 0, 8, St)) (c6 : cs[6]? = some (1, 0, 8, A)) (c7 : cs[7]? = some (1, 1, 32, Mi)) (ct : cs[it]? = some (1, 1, q, T)) (hit : 7 < it) (hit2 : it < 10) (cf : cs[jf]? = some (1, 1, qf, C)) (hjf : 7 < jf) (hjf2 : jf < 10) (hX : fh X hM_ vs) (v1 : vs[1]? = some (2, pl 1, 0)) (v2 : vs[2]? = some (2, pl 2, 0)) (v3 : vs[3]? = some (2, pl 3, 0)) (v4 : vs[4]? = some (2, pl 4, 0)) (v5 : vs[5]? = some (2, pl 5, 0)) (v6 : vs[6]? = some (2, pl 6, 0)) (v7 : vs[7]? = some (2, pl 7, 0)) (v8 : vs[8]? = some (0, u, 0)) (v9 : vs[9]? = some (1, l, 0)) (hq : q ≤ 2147483647) (ha : at_ + 32 ≤ q) (hqf : qf ≤ 2147483647) (hn : fa + nn ≤ qf) (hA : ∀ i, i < 8 → mv_rd 32 A i = mv_rd 32 hs_S0 i) (hf : ∀ j, j < nn → mv_rd 32 C (fa + j) = f j) (hnn : nn < 1048576) :
    ∃ (w' : mv_T 10) (X' P' W' V' S' M' T' u' l' : Nat), sy_C 100 n 4 97 [(2, pl 0, 0), (2, pl jf, 0), (0, fa, 0), (0, nn, 0), (2, pl it, 0), (0, at_, 0)] w [] w' ∧ wh 10 pl w0 w' (((((((cs.set 7 (1, 1, 32, M')).set it (1, 1, q, T')).set 1 (1, 1, 64, P')).set 0 (0, 0, 107, X')).set 3 (1, 0, 64, W')).set 4 (1, 0, 8, V')).set 5 (1, 0, 8, S')) ∧ fh X' hM_ ((vs.set 8 (0, u', 0)).set 9 (1, l', 0)) ∧ (u' < 64 ∧ l' < 18446744073709551616) ∧ ∀ j, mv_rd 32 T' j = if at_ ≤ j ∧ j < at_ + 32 then bk_D (hs_2 f nn) (j - at_) else mv_rd 32 T j := by
  have L : ∀ i, i < 10 → pl i < 1024 := fun i hi => wh_lt hw i hi
  have E : ∀ i j, i < 10 → j < 10 → i ≠ j → pl i ≠ pl j := fun i j hi hj e => wh_ne hw i j hi hj e
  have D : rs_D w (pl 0) (pl 1) (pl 2) (pl 3) (pl 4) (pl 5) X mc_K := ⟨⟨L 0 (by decide), L 1 (by decide), L 2 (by decide), L 3 (by decide), L 4 (by decide), L 5 (by decide)⟩, ⟨E 3 4 (by decide) (by decide) (by decide), E 3 5 (by decide) (by decide) (by decide), E 4 5 (by decide) (by decide) (by decide)⟩, ⟨E 0 3 (by decide) (by decide) (by decide), E 0 4 (by decide) (by decide) (by decide), E 0 5 (by decide) (by decide) (by decide)⟩, ⟨E 1 3 (by decide) (by decide) (by decide), E 1 4 (by decide) (by decide) (by decide), E 1 5 (by decide) (by decide) (by decide)⟩, ⟨E 2 3 (by decide) (by decide) (by decide), E 2 4 (by decide) (by decide) (by decide), E 2 5 (by decide) (by decide) (by decide)⟩, ⟨E 0 1 (by decide) (by decide) (by decide), E 2 1 (by decide) (by decide) (by decide), E 2 0 (by decide) (by decide) (by decide)⟩, wh_at hw 2 c2, fh_at hX 3 rfl v3, fh_at hX 1 rfl v1, fh_at hX 4 rfl v4, fh_at hX 5 rfl v5, fh_at hX 2 rfl v2⟩
  have O : ∀ i, 5 < i → i < 10 → rs_O (pl 0) (pl 1) (pl 3) (pl 4) (pl 5) (pl i) := fun i h5 hi => ⟨L i hi, E i 0 hi (by decide) (by omega), E i 1 hi (by decide) (by omega), E i 3 hi (by decide) (by omega), E i 4 hi (by decide) (by omega), E i 5 hi (by decide) (by omega)⟩
  have x1 : rs_x X u l = X := by
    unfold rs_x
    have r1 := mv_enc_dec (by decide) (fh_at hX 8 (j := 13) rfl v8)
    have r2 := mv_enc_dec (by decide) (fh_at hX 9 (j := 14) rfl v9)
    have q1 : mv_wr 136 X 13 (mv_enc (0, u, 0)) = X := by
      refine mv_wr_rd ?_
      rw [← r1]
      exact (Nat.mod_eq_of_lt (mv_rd_lt 136 X _)).symm
    rw [q1]
    refine mv_wr_rd ?_
    rw [← r2]
    exact (Nat.mod_eq_of_lt (mv_rd_lt 136 X _)).symm
  have eW : rs_W w (pl 0) (pl 1) (pl 3) (pl 4) (pl 5) X (u, l, P, Wd, V, St) = w := by
    show rs_w w (pl 0) (pl 1) (pl 3) (pl 4) (pl 5) (rs_x X u l) P Wd V St = w
    rw [x1]
    unfold rs_w
    rw [mv_sg (L 1 (by decide)) (wh_at hw 1 c1), mv_sg (L 0 (by decide)) (wh_at hw 0 c0)]
    unfold mr_w
    rw [mv_sg (L 3 (by decide)) (wh_at hw 3 c3), mv_sg (L 4 (by decide)) (wh_at hw 4 c4), mv_sg (L 5 (by decide)) (wh_at hw 5 c5)]
  have h := rs_hash (n := n) (s := (u, l, P, Wd, V, St)) D (O 6 (by decide) (by decide)) (wh_at hw 6 c6) (fh_at hX 6 rfl v6) (O 7 (by decide) (by decide)) (E 2 7 (by decide) (by decide) (by decide)) (E 6 7 (by decide) (by decide) (by decide)) (wh_at hw 7 c7) (fh_at hX 7 rfl v7) (O it (by omega) hit2) (E 2 it (by decide) hit2 (by omega)) (E 7 it (by decide) hit2 (by omega)) (wh_at hw it ct) hq ha (O jf (by omega) hjf2) (wh_at hw jf cf) hqf hn
  rw [eW] at h
  have ok : (rs_h mc_K A C fa nn Mi (u, l, P, Wd, V, St)).1 < 64 ∧ (rs_h mc_K A C fa nn Mi (u, l, P, Wd, V, St)).2.1 < 18446744073709551616 := by
    unfold rs_h
    exact rs_e_ok (rs_n_ok rs_b_u 32)
  have hT : ∀ j, mv_rd 32 (rs_o T at_ (rs_h mc_K A C fa nn Mi (u, l, P, Wd, V, St)).2.2.2.2.2 32) j = if at_ ≤ j ∧ j < at_ + 32 then bk_D (hs_2 f nn) (j - at_) else mv_rd 32 T j := fun j => hs_ref hA hf hnn j
  generalize rs_h mc_K A C fa nn Mi (u, l, P, Wd, V, St) = R at h ok hT
  generalize rs_hm mc_K A C fa nn Mi (u, l, P, Wd, V, St) = HM at h
  generalize rs_o T at_ R.2.2.2.2.2 32 = TT at h hT
  refine ⟨_, rs_x X R.1 R.2.1, R.2.2.1, R.2.2.2.1, R.2.2.2.2.1, R.2.2.2.2.2, HM, TT, R.1, R.2.1, h, ?_, ?_, ok, hT⟩
  · unfold rs_W rs_w mr_w
    exact wh_set (wh_set (wh_set (wh_set (wh_set (wh_set (wh_set hw 7 (by decide) _) it hit2 _) 1 (by decide) _) 0 (by decide) _) 3 (by decide) _) 4 (by decide) _) 5 (by decide) _
  · unfold rs_x
    exact fh_set (fh_set hX (by decide) 8 rfl (sy_ok0 (by have := ok.1; omega))) (by decide) 9 rfl (sy_ok1 ok.2)
end RH
/-- a word of four bytes, as the class reads it -/
def wb_4 (a b c d : Nat) : Nat := mo_or (mo_or (mo_or (mo_shl a 24) (mo_shl (mo_and b 255) 16)) (mo_shl (mo_and c 255) 8)) (mo_and d 255)
/-- as the reference does -/
def wo_4 (a b c d : Nat) : Nat := mo_or (mo_shl (mo_or (mo_shl (mo_or (mo_shl (mo_or 0 (mo_and a 255)) 8) (mo_and b 255)) 8) (mo_and c 255)) 8) (mo_and d 255)
theorem wb_and (a : Nat) : mo_and a 255 = a % 256 := Nat.and_two_pow_sub_one_eq_mod a 8
theorem wb_or {k : Nat} (a b : Nat) (h : b < 2 ^ k) : mo_or (a * 2 ^ k) b = a * 2 ^ k + b := by
  show a * 2 ^ k ||| b = _
  rw [← Nat.shiftLeft_eq, Nat.shiftLeft_add_eq_or_of_lt h]
theorem wb_v (a b c d : Nat) : wb_4 a b c d = (((a % 256) * 256 + b % 256) * 256 + c % 256) * 256 + d % 256 := by
  unfold wb_4
  rw [wb_and, wb_and, wb_and]
  have e0 : mo_shl a 24 = (a % 256) * 2 ^ 24 := by
    show a * 2 ^ 24 % 4294967296 = _
    omega
  have e1 : mo_shl (b % 256) 16 = (b % 256) * 2 ^ 16 := by
    show b % 256 * 2 ^ 16 % 4294967296 = _
    omega
  have e2 : mo_shl (c % 256) 8 = (c % 256) * 2 ^ 8 := by
    show c % 256 * 2 ^ 8 % 4294967296 = _
    omega
  rw [e0, e1, e2, wb_or _ _ (by omega)]
  rw [show a % 256 * 2 ^ 24 + b % 256 * 2 ^ 16 = (a % 256 * 256 + b % 256) * 2 ^ 16 by omega, wb_or _ _ (by omega)]
  rw [show (a % 256 * 256 + b % 256) * 2 ^ 16 + c % 256 * 2 ^ 8 = ((a % 256 * 256 + b % 256) * 256 + c % 256) * 2 ^ 8 by omega, wb_or _ _ (by omega)]
theorem wo_v (a b c d : Nat) : wo_4 a b c d = (((a % 256) * 256 + b % 256) * 256 + c % 256) * 256 + d % 256 := by
  unfold wo_4
  rw [wb_and, wb_and, wb_and, wb_and]
  have z : mo_or 0 (a % 256) = a % 256 := Nat.zero_or _
  have s : ∀ v u : Nat, v < 16777216 → u < 256 → mo_or (mo_shl v 8) u = v * 256 + u := by
    intro v u hv hu
    have e : mo_shl v 8 = v * 2 ^ 8 := by
      show v * 2 ^ 8 % 4294967296 = _
      omega
    rw [e, wb_or _ _ (by omega)]
  rw [z, s (a % 256) (b % 256) (by omega) (by omega), s _ (c % 256) (by omega) (by omega), s _ (d % 256) (by omega) (by omega)]
theorem wb_wo (a b c d : Nat) : wb_4 a b c d = wo_4 a b c d := by rw [wb_v, wo_v]
theorem sy_Cw {k n F Lo : Nat} {as r : List mv_V} {w : mv_T 10} (h : sy_D k n F Lo as w (fun ret w' => ret = r ∧ w' = w)) : sy_C k n F Lo as w r w := by
  obtain ⟨ret, w', ⟨rfl, rfl⟩, h⟩ := h
  exact h
section HW
variable {n : Nat} {w : mv_T 10}
theorem wa_run {p T at_ : Nat} (hp : p < 1024) (hT : mv_get 10 w p = (1, 1, 32, T)) (ha : at_ + 4 ≤ 32) : sy_C 27 n 0 0 [(2, p, 0), (0, at_, 0)] w [(0, (wb_4 (mv_rd 32 T at_) (mv_rd 32 T (at_ + 1)) (mv_rd 32 T (at_ + 2)) (mv_rd 32 T (at_ + 3))), 0)] w := by
  have hw := wh_1 hp hT
  refine sy_Cw (sy_Dof (us := []) (sy_oks_cons (sy_ok2 hp) (sy_oks_cons (sy_ok0 (by omega)) sy_oks_nil)) rfl rfl ?_)
  show sy_F 27 n 0 0 0 ([(2, (fun _ => p) 0, 0), (0, at_, 0)] ++ []) [] w _
  refine sy_Fs (sy_ildn xc27_0 rfl rfl sy_refl) ?_
  refine sy_Fs (sy_iflt_f xc27_1 (by decide) (by omega) sy_refl) ?_
  refine sy_Fs (sy_ildn xc27_4 rfl rfl sy_refl) ?_
  refine sy_Fs (sy_aldn xc27_5 rfl rfl sy_refl) ?_
  refine sy_Fs (sy_alen xc27_6 (wh_at hw 0 rfl) rfl sy_refl) ?_
  refine sy_Fs (sy_iconst (v := 4) xc27_7 (by decide) sy_refl) ?_
  refine sy_Fs (sx_isub (z := 28) xc27_8 (by decide)) ?_
  refine sy_Fs (sy_icmple_t (pc' := 14) xc27_9 (by decide) (by omega) (by decide) (by decide) sy_refl) ?_
  refine sy_Fs (sy_aldn xc27_14 rfl rfl sy_refl) ?_
  refine sy_Fs (sy_ildn xc27_15 rfl rfl sy_refl) ?_
  refine sy_Fs (sx_bal (z := (mv_rd 32 T at_)) xc27_16 (wh_at hw 0 rfl) (by omega) (by decide) rfl) ?_
  refine sy_Fs (sy_bipush (v := 24) xc27_17 (by decide) (by decide) sy_refl) ?_
  refine sy_Fs (sx_ishl (z := (mo_shl (mv_rd 32 T at_) 24)) xc27_19 rfl) ?_
  refine sy_Fs (sy_aldn xc27_20 rfl rfl sy_refl) ?_
  refine sy_Fs (sy_ildn xc27_21 rfl rfl sy_refl) ?_
  refine sy_Fs (sy_iconst (v := 1) xc27_22 (by decide) sy_refl) ?_
  refine sy_Fs (sx_iadd (z := (at_ + 1)) xc27_23 (Nat.mod_eq_of_lt (by omega))) ?_
  refine sy_Fs (sx_bal (z := (mv_rd 32 T (at_ + 1))) xc27_24 (wh_at hw 0 rfl) (by omega) (by decide) rfl) ?_
  refine sy_Fs (sy_sipush (v := 255) xc27_25 (by decide) (by decide) sy_refl) ?_
  refine sy_Fs (sx_iand (z := (mo_and (mv_rd 32 T (at_ + 1)) 255)) xc27_28 rfl) ?_
  refine sy_Fs (sy_bipush (v := 16) xc27_29 (by decide) (by decide) sy_refl) ?_
  refine sy_Fs (sx_ishl (z := (mo_shl (mo_and (mv_rd 32 T (at_ + 1)) 255) 16)) xc27_31 rfl) ?_
  refine sy_Fs (sx_ior (z := (mo_or (mo_shl (mv_rd 32 T at_) 24) (mo_shl (mo_and (mv_rd 32 T (at_ + 1)) 255) 16))) xc27_32 rfl) ?_
  refine sy_Fs (sy_aldn xc27_33 rfl rfl sy_refl) ?_
  refine sy_Fs (sy_ildn xc27_34 rfl rfl sy_refl) ?_
  refine sy_Fs (sy_iconst (v := 2) xc27_35 (by decide) sy_refl) ?_
  refine sy_Fs (sx_iadd (z := (at_ + 2)) xc27_36 (Nat.mod_eq_of_lt (by omega))) ?_
  refine sy_Fs (sx_bal (z := (mv_rd 32 T (at_ + 2))) xc27_37 (wh_at hw 0 rfl) (by omega) (by decide) rfl) ?_
  refine sy_Fs (sy_sipush (v := 255) xc27_38 (by decide) (by decide) sy_refl) ?_
  refine sy_Fs (sx_iand (z := (mo_and (mv_rd 32 T (at_ + 2)) 255)) xc27_41 rfl) ?_
  refine sy_Fs (sy_bipush (v := 8) xc27_42 (by decide) (by decide) sy_refl) ?_
  refine sy_Fs (sx_ishl (z := (mo_shl (mo_and (mv_rd 32 T (at_ + 2)) 255) 8)) xc27_44 rfl) ?_
  refine sy_Fs (sx_ior (z := (mo_or (mo_or (mo_shl (mv_rd 32 T at_) 24) (mo_shl (mo_and (mv_rd 32 T (at_ + 1)) 255) 16)) (mo_shl (mo_and (mv_rd 32 T (at_ + 2)) 255) 8))) xc27_45 rfl) ?_
  refine sy_Fs (sy_aldn xc27_46 rfl rfl sy_refl) ?_
  refine sy_Fs (sy_ildn xc27_47 rfl rfl sy_refl) ?_
  refine sy_Fs (sy_iconst (v := 3) xc27_48 (by decide) sy_refl) ?_
  refine sy_Fs (sx_iadd (z := (at_ + 3)) xc27_49 (Nat.mod_eq_of_lt (by omega))) ?_
  refine sy_Fs (sx_bal (z := (mv_rd 32 T (at_ + 3))) xc27_50 (wh_at hw 0 rfl) (by omega) (by decide) rfl) ?_
  refine sy_Fs (sy_sipush (v := 255) xc27_51 (by decide) (by decide) sy_refl) ?_
  refine sy_Fs (sx_iand (z := (mo_and (mv_rd 32 T (at_ + 3)) 255)) xc27_54 rfl) ?_
  refine sy_Fs (sx_ior (z := (mo_or (mo_or (mo_or (mo_shl (mv_rd 32 T at_) 24) (mo_shl (mo_and (mv_rd 32 T (at_ + 1)) 255) 16)) (mo_shl (mo_and (mv_rd 32 T (at_ + 2)) 255) 8)) (mo_and (mv_rd 32 T (at_ + 3)) 255))) xc27_55 rfl) ?_
  exact sy_Fi xc27_56 xr27 rfl ⟨rfl, rfl⟩
theorem wo_run {p T at_ : Nat} (hp : p < 1024) (hT : mv_get 10 w p = (1, 1, 32, T)) (ha : at_ + 4 ≤ 32) : sy_C 108 n 0 0 [(2, p, 0), (0, at_, 0)] w [(0, (wo_4 (mv_rd 32 T (at_ + 0)) (mv_rd 32 T (at_ + 1)) (mv_rd 32 T (at_ + 2)) (mv_rd 32 T (at_ + 3))), 0)] w := by
  have hw := wh_1 hp hT
  refine sy_Cw (sy_Dof (us := [(255, 0, 0), (255, 0, 0)]) (sy_oks_cons (sy_ok2 hp) (sy_oks_cons (sy_ok0 (by omega)) sy_oks_nil)) rfl rfl ?_)
  show sy_F 108 n 0 0 0 ([(2, (fun _ => p) 0, 0), (0, at_, 0)] ++ [(255, 0, 0), (255, 0, 0)]) [] w _
  refine sy_Fs (sy_iconst (v := 0) xc108_0 (by decide) sy_refl) ?_
  refine sy_Fs (sx_istn (j := 2) (ls' := [(2, (fun _ => p) 0, 0), (0, at_, 0), (0, 0, 0), (255, 0, 0)]) xc108_1 rfl rfl (sy_ok0 (by first | decide | assumption | omega | exact mo_rd_lt _ _ | exact mo_add_lt _ _ | exact mo_sub_lt _ _ | exact mo_mul_lt _ _ | exact mo_shl_lt _ _ | exact mo_ushr_lt _ _ | exact mo_or_lt (by decide) (mo_and_lt (mo_rd_lt _ _)) | exact mo_or_lt (mo_shl_lt _ _) (mo_and_lt (mo_rd_lt _ _)))) (by rw [xl108]; rfl) rfl rfl) ?_
  refine sy_Fs (sy_iconst (v := 0) xc108_2 (by decide) sy_refl) ?_
  refine sy_Fs (sx_istn (j := 3) (ls' := [(2, (fun _ => p) 0, 0), (0, at_, 0), (0, 0, 0), (0, 0, 0)]) xc108_3 rfl rfl (sy_ok0 (by first | decide | assumption | omega | exact mo_rd_lt _ _ | exact mo_add_lt _ _ | exact mo_sub_lt _ _ | exact mo_mul_lt _ _ | exact mo_shl_lt _ _ | exact mo_ushr_lt _ _ | exact mo_or_lt (by decide) (mo_and_lt (mo_rd_lt _ _)) | exact mo_or_lt (mo_shl_lt _ _) (mo_and_lt (mo_rd_lt _ _)))) (by rw [xl108]; rfl) rfl rfl) ?_
  refine sy_Fs (sy_ildn xc108_4 rfl rfl sy_refl) ?_
  refine sy_Fs (sy_iconst (v := 4) xc108_5 (by decide) sy_refl) ?_
  refine sy_Fs (sy_ge_f xc108_6 (by decide) (by decide) (by decide) sy_refl) ?_
  refine sy_Fs (sy_ildn xc108_9 rfl rfl sy_refl) ?_
  refine sy_Fs (sy_bipush (v := 8) xc108_10 (by decide) (by decide) sy_refl) ?_
  refine sy_Fs (sx_ishl (z := 0) xc108_12 (by decide)) ?_
  refine sy_Fs (sy_aldn xc108_13 rfl rfl sy_refl) ?_
  refine sy_Fs (sy_ildn xc108_14 rfl rfl sy_refl) ?_
  refine sy_Fs (sy_ildn xc108_15 rfl rfl sy_refl) ?_
  refine sy_Fs (sx_iadd (z := (at_ + 0)) xc108_16 (Nat.mod_eq_of_lt (by omega))) ?_
  refine sy_Fs (sx_bal (z := (mv_rd 32 T (at_ + 0))) xc108_17 (wh_at hw 0 rfl) (by omega) (by decide) rfl) ?_
  refine sy_Fs (sy_sipush (v := 255) xc108_18 (by decide) (by decide) sy_refl) ?_
  refine sy_Fs (sx_iand (z := (mo_and (mv_rd 32 T (at_ + 0)) 255)) xc108_21 rfl) ?_
  refine sy_Fs (sx_ior (z := (mo_or 0 (mo_and (mv_rd 32 T (at_ + 0)) 255))) xc108_22 rfl) ?_
  refine sy_Fs (sx_istn (j := 2) (ls' := [(2, (fun _ => p) 0, 0), (0, at_, 0), (0, (mo_or 0 (mo_and (mv_rd 32 T (at_ + 0)) 255)), 0), (0, 0, 0)]) xc108_23 rfl rfl (sy_ok0 (by first | decide | assumption | omega | exact mo_rd_lt _ _ | exact mo_add_lt _ _ | exact mo_sub_lt _ _ | exact mo_mul_lt _ _ | exact mo_shl_lt _ _ | exact mo_ushr_lt _ _ | exact mo_or_lt (by decide) (mo_and_lt (mo_rd_lt _ _)) | exact mo_or_lt (mo_shl_lt _ _) (mo_and_lt (mo_rd_lt _ _)))) (by rw [xl108]; rfl) rfl rfl) ?_
  refine sy_Fs (sx_iinc (c := 1) (z := 1) (ls' := [(2, (fun _ => p) 0, 0), (0, at_, 0), (0, (mo_or 0 (mo_and (mv_rd 32 T (at_ + 0)) 255)), 0), (0, 1, 0)]) xc108_24 rfl (by decide) (by rw [xl108]; rfl) rfl (by decide) rfl) ?_
  refine sy_Fs (sy_goto (pc' := 4) xc108_27 (by decide) (by decide) sy_refl) ?_
  refine sy_Fs (sy_ildn xc108_4 rfl rfl sy_refl) ?_
  refine sy_Fs (sy_iconst (v := 4) xc108_5 (by decide) sy_refl) ?_
  refine sy_Fs (sy_ge_f xc108_6 (by decide) (by decide) (by decide) sy_refl) ?_
  refine sy_Fs (sy_ildn xc108_9 rfl rfl sy_refl) ?_
  refine sy_Fs (sy_bipush (v := 8) xc108_10 (by decide) (by decide) sy_refl) ?_
  refine sy_Fs (sx_ishl (z := (mo_shl (mo_or 0 (mo_and (mv_rd 32 T (at_ + 0)) 255)) 8)) xc108_12 rfl) ?_
  refine sy_Fs (sy_aldn xc108_13 rfl rfl sy_refl) ?_
  refine sy_Fs (sy_ildn xc108_14 rfl rfl sy_refl) ?_
  refine sy_Fs (sy_ildn xc108_15 rfl rfl sy_refl) ?_
  refine sy_Fs (sx_iadd (z := (at_ + 1)) xc108_16 (Nat.mod_eq_of_lt (by omega))) ?_
  refine sy_Fs (sx_bal (z := (mv_rd 32 T (at_ + 1))) xc108_17 (wh_at hw 0 rfl) (by omega) (by decide) rfl) ?_
  refine sy_Fs (sy_sipush (v := 255) xc108_18 (by decide) (by decide) sy_refl) ?_
  refine sy_Fs (sx_iand (z := (mo_and (mv_rd 32 T (at_ + 1)) 255)) xc108_21 rfl) ?_
  refine sy_Fs (sx_ior (z := (mo_or (mo_shl (mo_or 0 (mo_and (mv_rd 32 T (at_ + 0)) 255)) 8) (mo_and (mv_rd 32 T (at_ + 1)) 255))) xc108_22 rfl) ?_
  refine sy_Fs (sx_istn (j := 2) (ls' := [(2, (fun _ => p) 0, 0), (0, at_, 0), (0, (mo_or (mo_shl (mo_or 0 (mo_and (mv_rd 32 T (at_ + 0)) 255)) 8) (mo_and (mv_rd 32 T (at_ + 1)) 255)), 0), (0, 1, 0)]) xc108_23 rfl rfl (sy_ok0 (by first | decide | assumption | omega | exact mo_rd_lt _ _ | exact mo_add_lt _ _ | exact mo_sub_lt _ _ | exact mo_mul_lt _ _ | exact mo_shl_lt _ _ | exact mo_ushr_lt _ _ | exact mo_or_lt (by decide) (mo_and_lt (mo_rd_lt _ _)) | exact mo_or_lt (mo_shl_lt _ _) (mo_and_lt (mo_rd_lt _ _)))) (by rw [xl108]; rfl) rfl rfl) ?_
  refine sy_Fs (sx_iinc (c := 1) (z := 2) (ls' := [(2, (fun _ => p) 0, 0), (0, at_, 0), (0, (mo_or (mo_shl (mo_or 0 (mo_and (mv_rd 32 T (at_ + 0)) 255)) 8) (mo_and (mv_rd 32 T (at_ + 1)) 255)), 0), (0, 2, 0)]) xc108_24 rfl (by decide) (by rw [xl108]; rfl) rfl (by decide) rfl) ?_
  refine sy_Fs (sy_goto (pc' := 4) xc108_27 (by decide) (by decide) sy_refl) ?_
  refine sy_Fs (sy_ildn xc108_4 rfl rfl sy_refl) ?_
  refine sy_Fs (sy_iconst (v := 4) xc108_5 (by decide) sy_refl) ?_
  refine sy_Fs (sy_ge_f xc108_6 (by decide) (by decide) (by decide) sy_refl) ?_
  refine sy_Fs (sy_ildn xc108_9 rfl rfl sy_refl) ?_
  refine sy_Fs (sy_bipush (v := 8) xc108_10 (by decide) (by decide) sy_refl) ?_
  refine sy_Fs (sx_ishl (z := (mo_shl (mo_or (mo_shl (mo_or 0 (mo_and (mv_rd 32 T (at_ + 0)) 255)) 8) (mo_and (mv_rd 32 T (at_ + 1)) 255)) 8)) xc108_12 rfl) ?_
  refine sy_Fs (sy_aldn xc108_13 rfl rfl sy_refl) ?_
  refine sy_Fs (sy_ildn xc108_14 rfl rfl sy_refl) ?_
  refine sy_Fs (sy_ildn xc108_15 rfl rfl sy_refl) ?_
  refine sy_Fs (sx_iadd (z := (at_ + 2)) xc108_16 (Nat.mod_eq_of_lt (by omega))) ?_
  refine sy_Fs (sx_bal (z := (mv_rd 32 T (at_ + 2))) xc108_17 (wh_at hw 0 rfl) (by omega) (by decide) rfl) ?_
  refine sy_Fs (sy_sipush (v := 255) xc108_18 (by decide) (by decide) sy_refl) ?_
  refine sy_Fs (sx_iand (z := (mo_and (mv_rd 32 T (at_ + 2)) 255)) xc108_21 rfl) ?_
  refine sy_Fs (sx_ior (z := (mo_or (mo_shl (mo_or (mo_shl (mo_or 0 (mo_and (mv_rd 32 T (at_ + 0)) 255)) 8) (mo_and (mv_rd 32 T (at_ + 1)) 255)) 8) (mo_and (mv_rd 32 T (at_ + 2)) 255))) xc108_22 rfl) ?_
  refine sy_Fs (sx_istn (j := 2) (ls' := [(2, (fun _ => p) 0, 0), (0, at_, 0), (0, (mo_or (mo_shl (mo_or (mo_shl (mo_or 0 (mo_and (mv_rd 32 T (at_ + 0)) 255)) 8) (mo_and (mv_rd 32 T (at_ + 1)) 255)) 8) (mo_and (mv_rd 32 T (at_ + 2)) 255)), 0), (0, 2, 0)]) xc108_23 rfl rfl (sy_ok0 (by first | decide | assumption | omega | exact mo_rd_lt _ _ | exact mo_add_lt _ _ | exact mo_sub_lt _ _ | exact mo_mul_lt _ _ | exact mo_shl_lt _ _ | exact mo_ushr_lt _ _ | exact mo_or_lt (by decide) (mo_and_lt (mo_rd_lt _ _)) | exact mo_or_lt (mo_shl_lt _ _) (mo_and_lt (mo_rd_lt _ _)))) (by rw [xl108]; rfl) rfl rfl) ?_
  refine sy_Fs (sx_iinc (c := 1) (z := 3) (ls' := [(2, (fun _ => p) 0, 0), (0, at_, 0), (0, (mo_or (mo_shl (mo_or (mo_shl (mo_or 0 (mo_and (mv_rd 32 T (at_ + 0)) 255)) 8) (mo_and (mv_rd 32 T (at_ + 1)) 255)) 8) (mo_and (mv_rd 32 T (at_ + 2)) 255)), 0), (0, 3, 0)]) xc108_24 rfl (by decide) (by rw [xl108]; rfl) rfl (by decide) rfl) ?_
  refine sy_Fs (sy_goto (pc' := 4) xc108_27 (by decide) (by decide) sy_refl) ?_
  refine sy_Fs (sy_ildn xc108_4 rfl rfl sy_refl) ?_
  refine sy_Fs (sy_iconst (v := 4) xc108_5 (by decide) sy_refl) ?_
  refine sy_Fs (sy_ge_f xc108_6 (by decide) (by decide) (by decide) sy_refl) ?_
  refine sy_Fs (sy_ildn xc108_9 rfl rfl sy_refl) ?_
  refine sy_Fs (sy_bipush (v := 8) xc108_10 (by decide) (by decide) sy_refl) ?_
  refine sy_Fs (sx_ishl (z := (mo_shl (mo_or (mo_shl (mo_or (mo_shl (mo_or 0 (mo_and (mv_rd 32 T (at_ + 0)) 255)) 8) (mo_and (mv_rd 32 T (at_ + 1)) 255)) 8) (mo_and (mv_rd 32 T (at_ + 2)) 255)) 8)) xc108_12 rfl) ?_
  refine sy_Fs (sy_aldn xc108_13 rfl rfl sy_refl) ?_
  refine sy_Fs (sy_ildn xc108_14 rfl rfl sy_refl) ?_
  refine sy_Fs (sy_ildn xc108_15 rfl rfl sy_refl) ?_
  refine sy_Fs (sx_iadd (z := (at_ + 3)) xc108_16 (Nat.mod_eq_of_lt (by omega))) ?_
  refine sy_Fs (sx_bal (z := (mv_rd 32 T (at_ + 3))) xc108_17 (wh_at hw 0 rfl) (by omega) (by decide) rfl) ?_
  refine sy_Fs (sy_sipush (v := 255) xc108_18 (by decide) (by decide) sy_refl) ?_
  refine sy_Fs (sx_iand (z := (mo_and (mv_rd 32 T (at_ + 3)) 255)) xc108_21 rfl) ?_
  refine sy_Fs (sx_ior (z := (mo_or (mo_shl (mo_or (mo_shl (mo_or (mo_shl (mo_or 0 (mo_and (mv_rd 32 T (at_ + 0)) 255)) 8) (mo_and (mv_rd 32 T (at_ + 1)) 255)) 8) (mo_and (mv_rd 32 T (at_ + 2)) 255)) 8) (mo_and (mv_rd 32 T (at_ + 3)) 255))) xc108_22 rfl) ?_
  refine sy_Fs (sx_istn (j := 2) (ls' := [(2, (fun _ => p) 0, 0), (0, at_, 0), (0, (mo_or (mo_shl (mo_or (mo_shl (mo_or (mo_shl (mo_or 0 (mo_and (mv_rd 32 T (at_ + 0)) 255)) 8) (mo_and (mv_rd 32 T (at_ + 1)) 255)) 8) (mo_and (mv_rd 32 T (at_ + 2)) 255)) 8) (mo_and (mv_rd 32 T (at_ + 3)) 255)), 0), (0, 3, 0)]) xc108_23 rfl rfl (sy_ok0 (by first | decide | assumption | omega | exact mo_rd_lt _ _ | exact mo_add_lt _ _ | exact mo_sub_lt _ _ | exact mo_mul_lt _ _ | exact mo_shl_lt _ _ | exact mo_ushr_lt _ _ | exact mo_or_lt (by decide) (mo_and_lt (mo_rd_lt _ _)) | exact mo_or_lt (mo_shl_lt _ _) (mo_and_lt (mo_rd_lt _ _)))) (by rw [xl108]; rfl) rfl rfl) ?_
  refine sy_Fs (sx_iinc (c := 1) (z := 4) (ls' := [(2, (fun _ => p) 0, 0), (0, at_, 0), (0, (mo_or (mo_shl (mo_or (mo_shl (mo_or (mo_shl (mo_or 0 (mo_and (mv_rd 32 T (at_ + 0)) 255)) 8) (mo_and (mv_rd 32 T (at_ + 1)) 255)) 8) (mo_and (mv_rd 32 T (at_ + 2)) 255)) 8) (mo_and (mv_rd 32 T (at_ + 3)) 255)), 0), (0, 4, 0)]) xc108_24 rfl (by decide) (by rw [xl108]; rfl) rfl (by decide) rfl) ?_
  refine sy_Fs (sy_goto (pc' := 4) xc108_27 (by decide) (by decide) sy_refl) ?_
  refine sy_Fs (sy_ildn xc108_4 rfl rfl sy_refl) ?_
  refine sy_Fs (sy_iconst (v := 4) xc108_5 (by decide) sy_refl) ?_
  refine sy_Fs (sy_ge_t (pc' := 30) xc108_6 (by decide) (by decide) (by decide) (by decide) sy_refl) ?_
  refine sy_Fs (sy_ildn xc108_30 rfl rfl sy_refl) ?_
  exact sy_Fi xc108_31 xr108 rfl ⟨rfl, rfl⟩
end HW
section HC
variable {n : Nat} {pl : Nat → Nat} {w0 w : mv_T 10} {X0 X3 Tp Dg Sp Sw Ss In t su sl i : Nat}
theorem ch_hash (hw : wh 8 pl w0 w [(0, 1, 13, X0), (1, 1, 200, Tp), (1, 1, 32, Dg), (0, 2, 13, X3), (1, 1, 64, Sp), (1, 0, 64, Sw), (1, 0, 8, Ss), (1, 1, 32, In)]) (hX0 : fh X0 hC_ [(2, pl 3, 0), (2, pl 1, 0), (0, t, 0), (2, pl 2, 0)]) (hX3 : fh X3 hS [(2, pl 4, 0), (2, pl 5, 0), (2, pl 6, 0), (2, pl 7, 0), (0, su, 0), (0, sl, 0)]) (hi : i < 8) (ht : t ≤ 200) : sy_D 57 n 5 115 [(2, pl 0, 0), (0, 0, 0), (0, i, 0)] w (fun ret w' => ret = [(0, (wb_4 (bk_D (hs_2 (fun j => mv_rd 32 Tp (0 + j)) t) (4 * i)) (bk_D (hs_2 (fun j => mv_rd 32 Tp (0 + j)) t) (4 * i + 1)) (bk_D (hs_2 (fun j => mv_rd 32 Tp (0 + j)) t) (4 * i + 2)) (bk_D (hs_2 (fun j => mv_rd 32 Tp (0 + j)) t) (4 * i + 3))), 0)] ∧ ∃ Y3 P1 W1 S1 I1 T1 u1 l1, wh 8 pl w0 w' [(0, 1, 13, X0), (1, 1, 200, Tp), (1, 1, 32, T1), (0, 2, 13, Y3), (1, 1, 64, P1), (1, 0, 64, W1), (1, 0, 8, S1), (1, 1, 32, I1)] ∧ fh Y3 hS [(2, pl 4, 0), (2, pl 5, 0), (2, pl 6, 0), (2, pl 7, 0), (0, u1, 0), (0, l1, 0)]) := by
  refine sy_Dof (us := []) (sy_oks_cons (sy_ok2 (wh_lt hw 0 (by first | decide | assumption))) (sy_oks_cons (sy_ok0 (by first | decide | assumption | omega | exact mo_rd_lt _ _ | exact mo_add_lt _ _ | exact mo_sub_lt _ _ | exact mo_mul_lt _ _ | exact mo_shl_lt _ _ | exact mo_ushr_lt _ _ | exact mo_or_lt (by decide) (mo_and_lt (mo_rd_lt _ _)) | exact mo_or_lt (mo_shl_lt _ _) (mo_and_lt (mo_rd_lt _ _)))) (sy_oks_cons (sy_ok0 (by first | decide | assumption | omega | exact mo_rd_lt _ _ | exact mo_add_lt _ _ | exact mo_sub_lt _ _ | exact mo_mul_lt _ _ | exact mo_shl_lt _ _ | exact mo_ushr_lt _ _ | exact mo_or_lt (by decide) (mo_and_lt (mo_rd_lt _ _)) | exact mo_or_lt (mo_shl_lt _ _) (mo_and_lt (mo_rd_lt _ _)))) sy_oks_nil))) rfl rfl ?_
  show sy_F 57 n 5 115 0 [(2, pl 0, 0), (0, 0, 0), (0, i, 0)] [] w _
  refine sy_Fs (sy_ildn xc57_0 rfl rfl sy_refl) ?_
  refine sy_Fs (sy_iflt_f xc57_1 (by decide) (by decide) sy_refl) ?_
  refine sy_Fs (sy_ildn xc57_4 rfl rfl sy_refl) ?_
  refine sy_Fs (sy_iconst (v := 1) xc57_5 (by decide) sy_refl) ?_
  refine sy_Fs (sy_icmpgt_f xc57_6 (by decide) (by decide) (by decide) sy_refl) ?_
  refine sy_Fs (sy_ildn xc57_9 rfl rfl sy_refl) ?_
  refine sy_Fs (sy_iflt_f xc57_10 (by decide) (by omega) sy_refl) ?_
  refine sy_Fs (sy_ildn xc57_13 rfl rfl sy_refl) ?_
  refine sy_Fs (sy_bipush (v := 8) xc57_14 (by decide) (by decide) sy_refl) ?_
  refine sy_Fs (sy_icmplt_t (pc' := 21) xc57_16 (by decide) (by omega) (by decide) (by decide) sy_refl) ?_
  refine sy_Fs (sy_ildn xc57_21 rfl rfl sy_refl) ?_
  refine sy_Fs (sy_ifne_f xc57_22 (by decide) (by decide) sy_refl) ?_
  refine sy_Fs (sy_aldn xc57_25 rfl rfl sy_refl) ?_
  refine sy_Fs (sy_gf xc57_26 xf57_76 rfl (wh_at hw 0 rfl) rfl (fh_at hX0 0 rfl rfl) sy_refl) ?_
  refine sy_Fs (sy_aldn xc57_29 rfl rfl sy_refl) ?_
  refine sy_Fs (sy_gf xc57_30 xf57_9 rfl (wh_at hw 0 rfl) rfl (fh_at hX0 1 rfl rfl) sy_refl) ?_
  refine sy_Fs (sy_iconst (v := 0) xc57_33 (by decide) sy_refl) ?_
  refine sy_Fs (sy_aldn xc57_34 rfl rfl sy_refl) ?_
  refine sy_Fs (sy_gf xc57_35 xf57_103 rfl (wh_at hw 0 rfl) rfl (fh_at hX0 2 rfl rfl) sy_refl) ?_
  refine sy_Fs (sy_aldn xc57_38 rfl rfl sy_refl) ?_
  refine sy_Fs (sy_gf xc57_39 xf57_13 rfl (wh_at hw 0 rfl) rfl (fh_at hX0 3 rfl rfl) sy_refl) ?_
  obtain ⟨w, X3, P1, W1, S1, I1, T1, u1, l1, hC, hw1, hX1x, hT1⟩ := wc_hash (n := n) (s := (su, sl, Sp, Sw, Ss)) (fa := 0) (nn := t) (it := 2) (jf := 1) (f := fun j => mv_rd 32 Tp (0 + j)) hw rfl rfl rfl rfl hX3 rfl rfl rfl rfl rfl rfl rfl (by decide) rfl (by decide) (by decide) (by decide) rfl (by decide) (by omega) (fun _ _ => rfl) (by omega)
  refine sy_Fs (sy_callG (kd := 3) (as := [(2, pl 3, 0), (2, pl 1, 0), (0, 0, 0), (0, t, 0), (2, pl 2, 0)]) (S0 := []) (ret := []) xc57_42 (sy_calV (as := [(2, pl 3, 0), (2, pl 1, 0), (0, 0, 0), (0, t, 0), (2, pl 2, 0)]) (S0 := []) xm57_111 rfl rfl) rfl rfl (sy_rcvm xi13 (wh_at hw 3 rfl)) rfl (sy_oka (sy_oks_cons (sy_ok2 (wh_lt hw 3 (by first | decide | assumption))) (sy_oks_cons (sy_ok2 (wh_lt hw 1 (by first | decide | assumption))) (sy_oks_cons (sy_ok0 (by first | decide | assumption | omega | exact mo_rd_lt _ _ | exact mo_add_lt _ _ | exact mo_sub_lt _ _ | exact mo_mul_lt _ _ | exact mo_shl_lt _ _ | exact mo_ushr_lt _ _ | exact mo_or_lt (by decide) (mo_and_lt (mo_rd_lt _ _)) | exact mo_or_lt (mo_shl_lt _ _) (mo_and_lt (mo_rd_lt _ _)))) (sy_oks_cons (sy_ok0 (by first | decide | assumption | omega | exact mo_rd_lt _ _ | exact mo_add_lt _ _ | exact mo_sub_lt _ _ | exact mo_mul_lt _ _ | exact mo_shl_lt _ _ | exact mo_ushr_lt _ _ | exact mo_or_lt (by decide) (mo_and_lt (mo_rd_lt _ _)) | exact mo_or_lt (mo_shl_lt _ _) (mo_and_lt (mo_rd_lt _ _)))) (sy_oks_cons (sy_ok2 (wh_lt hw 2 (by first | decide | assumption))) sy_oks_nil))))) rfl xl13) hC (by decide) (by rw [xl13]; decide) sy_refl) ?_
  replace hw := hw1
  replace hX3 := hX1x
  simp only [List.set_cons_zero, List.set_cons_succ] at hw hX3
  refine sy_Fs (sy_aldn xc57_45 rfl rfl sy_refl) ?_
  refine sy_Fs (sy_gf xc57_46 xf57_13 rfl (wh_at hw 0 rfl) rfl (fh_at hX0 3 rfl rfl) sy_refl) ?_
  refine sy_Fs (sy_iconst (v := 4) xc57_49 (by decide) sy_refl) ?_
  refine sy_Fs (sy_ildn xc57_50 rfl rfl sy_refl) ?_
  refine sy_Fs (sx_imul (z := (4 * i)) xc57_51 (Nat.mod_eq_of_lt (by omega))) ?_
  refine sy_Fs (sy_callG (kd := 1) (as := [(2, pl 2, 0), (0, (4 * i), 0)]) (S0 := []) (ret := [(0, (wb_4 (mv_rd 32 T1 (4 * i)) (mv_rd 32 T1 (4 * i + 1)) (mv_rd 32 T1 (4 * i + 2)) (mv_rd 32 T1 (4 * i + 3))), 0)]) xc57_52 (sy_calS (as := [(2, pl 2, 0), (0, (4 * i), 0)]) (S0 := []) xm57_115 rfl rfl) rfl rfl rfl rfl (sy_oka (sy_oks_cons (sy_ok2 (wh_lt hw 2 (by first | decide | assumption))) (sy_oks_cons (sy_ok0 (by first | decide | assumption | omega | exact mo_rd_lt _ _ | exact mo_add_lt _ _ | exact mo_sub_lt _ _ | exact mo_mul_lt _ _ | exact mo_shl_lt _ _ | exact mo_ushr_lt _ _ | exact mo_or_lt (by decide) (mo_and_lt (mo_rd_lt _ _)) | exact mo_or_lt (mo_shl_lt _ _) (mo_and_lt (mo_rd_lt _ _)))) sy_oks_nil)) rfl xl27) (wa_run (wh_lt hw 2 (by first | decide | assumption)) (wh_at hw 2 rfl) (by omega)) (by decide) (by rw [xl27]; decide) sy_refl) ?_
  have hT2 : ∀ j, j < 32 → mv_rd 32 T1 j = bk_D (hs_2 (fun j => mv_rd 32 Tp (0 + j)) t) j := by
    intro j hj
    rw [hT1, if_pos ⟨by omega, by omega⟩]
    rfl
  rw [hT2 _ (by omega), hT2 _ (by omega), hT2 _ (by omega), hT2 _ (by omega)]
  exact sy_Fi xc57_55 xr57 rfl ⟨rfl, X3, P1, W1, S1, I1, T1, u1, l1, hw, hX3⟩
end HC
section HM
variable {n : Nat} {pl : Nat → Nat} {w0 w : mv_T 10} {X0 Tp Ou Pc Wd Vv St Af Mi t th up lp i : Nat}
theorem rh_hash (hw : wh 10 pl w0 w [(0, 0, 107, X0), (1, 1, 64, Pc), (1, 0, 64, mc_K), (1, 0, 64, Wd), (1, 0, 8, Vv), (1, 0, 8, St), (1, 0, 8, Af), (1, 1, 32, Mi), (1, 1, 220, Tp), (1, 1, 32, Ou)]) (hX0 : fh X0 hM_ [(0, th, 0), (2, pl 1, 0), (2, pl 2, 0), (2, pl 3, 0), (2, pl 4, 0), (2, pl 5, 0), (2, pl 6, 0), (2, pl 7, 0), (0, up, 0), (1, lp, 0), (2, pl 8, 0), (0, t, 0), (2, pl 9, 0)]) (hi : i < 8) (ht : t ≤ 200) (hA : ∀ i, i < 8 → mv_rd 32 Af i = mv_rd 32 hs_S0 i) : sy_D 99 n 5 122 [(2, pl 0, 0), (0, 0, 0), (0, i, 0)] w (fun ret w' => ret = [(0, (wb_4 (bk_D (hs_2 (fun j => mv_rd 32 Tp (0 + j)) t) (4 * i)) (bk_D (hs_2 (fun j => mv_rd 32 Tp (0 + j)) t) (4 * i + 1)) (bk_D (hs_2 (fun j => mv_rd 32 Tp (0 + j)) t) (4 * i + 2)) (bk_D (hs_2 (fun j => mv_rd 32 Tp (0 + j)) t) (4 * i + 3))), 0)] ∧ ∃ Y0 P1 W1 V1 S1 M1 T1 u1 l1, wh 10 pl w0 w' [(0, 0, 107, Y0), (1, 1, 64, P1), (1, 0, 64, mc_K), (1, 0, 64, W1), (1, 0, 8, V1), (1, 0, 8, S1), (1, 0, 8, Af), (1, 1, 32, M1), (1, 1, 220, Tp), (1, 1, 32, T1)] ∧ fh Y0 hM_ [(0, 0, 0), (2, pl 1, 0), (2, pl 2, 0), (2, pl 3, 0), (2, pl 4, 0), (2, pl 5, 0), (2, pl 6, 0), (2, pl 7, 0), (0, u1, 0), (1, l1, 0), (2, pl 8, 0), (0, t, 0), (2, pl 9, 0)]) := by
  refine sy_Dof (us := []) (sy_oks_cons (sy_ok2 (wh_lt hw 0 (by first | decide | assumption))) (sy_oks_cons (sy_ok0 (by first | decide | assumption | omega | exact mo_rd_lt _ _ | exact mo_add_lt _ _ | exact mo_sub_lt _ _ | exact mo_mul_lt _ _ | exact mo_shl_lt _ _ | exact mo_ushr_lt _ _ | exact mo_or_lt (by decide) (mo_and_lt (mo_rd_lt _ _)) | exact mo_or_lt (mo_shl_lt _ _) (mo_and_lt (mo_rd_lt _ _)))) (sy_oks_cons (sy_ok0 (by first | decide | assumption | omega | exact mo_rd_lt _ _ | exact mo_add_lt _ _ | exact mo_sub_lt _ _ | exact mo_mul_lt _ _ | exact mo_shl_lt _ _ | exact mo_ushr_lt _ _ | exact mo_or_lt (by decide) (mo_and_lt (mo_rd_lt _ _)) | exact mo_or_lt (mo_shl_lt _ _) (mo_and_lt (mo_rd_lt _ _)))) sy_oks_nil))) rfl rfl ?_
  show sy_F 99 n 5 122 0 [(2, pl 0, 0), (0, 0, 0), (0, i, 0)] [] w _
  refine sy_Fs (sy_aldn xc99_0 rfl rfl sy_refl) ?_
  refine sy_Fs (sy_iconst (v := 0) xc99_1 (by decide) sy_refl) ?_
  refine sy_Ff (i := 0) (q := 0) (v := (0, 0, 0)) hw hX0 (by decide) (by decide) rfl (sy_ok0 (by first | decide | assumption | omega | exact mo_rd_lt _ _ | exact mo_add_lt _ _ | exact mo_sub_lt _ _ | exact mo_mul_lt _ _ | exact mo_shl_lt _ _ | exact mo_ushr_lt _ _ | exact mo_or_lt (by decide) (mo_and_lt (mo_rd_lt _ _)) | exact mo_or_lt (mo_shl_lt _ _) (mo_and_lt (mo_rd_lt _ _)))) (sy_pfi xc99_2 xf99_1 rfl xt0_0 xn0_0 (wh_at hw 0 rfl) rfl (by first | decide | assumption | omega | exact mo_rd_lt _ _ | exact mo_add_lt _ _ | exact mo_sub_lt _ _ | exact mo_mul_lt _ _ | exact mo_shl_lt _ _ | exact mo_ushr_lt _ _ | exact mo_or_lt (by decide) (mo_and_lt (mo_rd_lt _ _)) | exact mo_or_lt (mo_shl_lt _ _) (mo_and_lt (mo_rd_lt _ _))) rfl sy_refl) ?_
  intro w X0 hw hX0
  simp only [List.set_cons_zero, List.set_cons_succ] at hw hX0
  refine sy_Fs (sy_ildn xc99_5 rfl rfl sy_refl) ?_
  refine sy_Fs (sx_i2l xc99_6 (by first | decide | assumption | omega | exact mo_rd_lt _ _ | exact mo_add_lt _ _ | exact mo_sub_lt _ _ | exact mo_mul_lt _ _ | exact mo_shl_lt _ _ | exact mo_ushr_lt _ _ | exact mo_or_lt (by decide) (mo_and_lt (mo_rd_lt _ _)) | exact mo_or_lt (mo_shl_lt _ _) (mo_and_lt (mo_rd_lt _ _)))) ?_
  refine sy_Fs (sy_lconst xc99_7 sy_refl) ?_
  refine sy_Fs (sy_lconst xc99_8 sy_refl) ?_
  refine sy_Fs (sy_callG (kd := 1) (as := [(1, 0, 0), (1, 0, 0), (1, 1, 0)]) (S0 := []) (ret := [(0, 1, 0)]) xc99_9 (sy_calS (as := [(1, 0, 0), (1, 0, 0), (1, 1, 0)]) (S0 := []) xm99_147 rfl rfl) rfl rfl rfl rfl (sy_oka (sy_oks_cons (sy_ok1 (by first | decide | assumption | omega | exact mo_rd_lt _ _ | exact mo_add_lt _ _ | exact mo_sub_lt _ _ | exact mo_mul_lt _ _ | exact mo_shl_lt _ _ | exact mo_ushr_lt _ _ | exact mo_or_lt (by decide) (mo_and_lt (mo_rd_lt _ _)) | exact mo_or_lt (mo_shl_lt _ _) (mo_and_lt (mo_rd_lt _ _)))) (sy_oks_cons (sy_ok1 (by first | decide | assumption | omega | exact mo_rd_lt _ _ | exact mo_add_lt _ _ | exact mo_sub_lt _ _ | exact mo_mul_lt _ _ | exact mo_shl_lt _ _ | exact mo_ushr_lt _ _ | exact mo_or_lt (by decide) (mo_and_lt (mo_rd_lt _ _)) | exact mo_or_lt (mo_shl_lt _ _) (mo_and_lt (mo_rd_lt _ _)))) (sy_oks_cons (sy_ok1 (by first | decide | assumption | omega | exact mo_rd_lt _ _ | exact mo_add_lt _ _ | exact mo_sub_lt _ _ | exact mo_mul_lt _ _ | exact mo_shl_lt _ _ | exact mo_ushr_lt _ _ | exact mo_or_lt (by decide) (mo_and_lt (mo_rd_lt _ _)) | exact mo_or_lt (mo_shl_lt _ _) (mo_and_lt (mo_rd_lt _ _)))) sy_oks_nil))) rfl xl98) (wr_in (by omega) (by omega) (by omega)) (by decide) (by rw [xl98]; decide) sy_refl) ?_
  refine sy_Fs (sy_ifeq_f xc99_12 (by decide) (by decide) (by decide) sy_refl) ?_
  refine sy_Fs (sy_ildn xc99_15 rfl rfl sy_refl) ?_
  refine sy_Fs (sx_i2l xc99_16 (by first | decide | assumption | omega | exact mo_rd_lt _ _ | exact mo_add_lt _ _ | exact mo_sub_lt _ _ | exact mo_mul_lt _ _ | exact mo_shl_lt _ _ | exact mo_ushr_lt _ _ | exact mo_or_lt (by decide) (mo_and_lt (mo_rd_lt _ _)) | exact mo_or_lt (mo_shl_lt _ _) (mo_and_lt (mo_rd_lt _ _)))) ?_
  refine sy_Fs (sy_lconst xc99_17 sy_refl) ?_
  refine sy_Fs (sy_ldc2 (v := 7) xc99_18 xk99_151 sy_refl) ?_
  refine sy_Fs (sy_callG (kd := 1) (as := [(1, i, 0), (1, 0, 0), (1, 7, 0)]) (S0 := []) (ret := [(0, 1, 0)]) xc99_21 (sy_calS (as := [(1, i, 0), (1, 0, 0), (1, 7, 0)]) (S0 := []) xm99_147 rfl rfl) rfl rfl rfl rfl (sy_oka (sy_oks_cons (sy_ok1 (by first | decide | assumption | omega | exact mo_rd_lt _ _ | exact mo_add_lt _ _ | exact mo_sub_lt _ _ | exact mo_mul_lt _ _ | exact mo_shl_lt _ _ | exact mo_ushr_lt _ _ | exact mo_or_lt (by decide) (mo_and_lt (mo_rd_lt _ _)) | exact mo_or_lt (mo_shl_lt _ _) (mo_and_lt (mo_rd_lt _ _)))) (sy_oks_cons (sy_ok1 (by first | decide | assumption | omega | exact mo_rd_lt _ _ | exact mo_add_lt _ _ | exact mo_sub_lt _ _ | exact mo_mul_lt _ _ | exact mo_shl_lt _ _ | exact mo_ushr_lt _ _ | exact mo_or_lt (by decide) (mo_and_lt (mo_rd_lt _ _)) | exact mo_or_lt (mo_shl_lt _ _) (mo_and_lt (mo_rd_lt _ _)))) (sy_oks_cons (sy_ok1 (by first | decide | assumption | omega | exact mo_rd_lt _ _ | exact mo_add_lt _ _ | exact mo_sub_lt _ _ | exact mo_mul_lt _ _ | exact mo_shl_lt _ _ | exact mo_ushr_lt _ _ | exact mo_or_lt (by decide) (mo_and_lt (mo_rd_lt _ _)) | exact mo_or_lt (mo_shl_lt _ _) (mo_and_lt (mo_rd_lt _ _)))) sy_oks_nil))) rfl xl98) (wr_in (by omega) (by omega) (by omega)) (by decide) (by rw [xl98]; decide) sy_refl) ?_
  refine sy_Fs (sy_ifeq_f xc99_24 (by decide) (by decide) (by decide) sy_refl) ?_
  refine sy_Fs (sy_ildn xc99_27 rfl rfl sy_refl) ?_
  refine sy_Fs (sy_iconst (v := 1) xc99_28 (by decide) sy_refl) ?_
  refine sy_Fs (sy_icmpne_t (pc' := 43) xc99_29 (by decide) (by decide) (by decide) (by decide) (by decide) sy_refl) ?_
  refine sy_Fs (sy_ildn xc99_43 rfl rfl sy_refl) ?_
  refine sy_Fs (sy_ifne_f xc99_44 (by decide) (by decide) sy_refl) ?_
  refine sy_Fs (sy_aldn xc99_47 rfl rfl sy_refl) ?_
  refine sy_Fs (sy_aldn xc99_48 rfl rfl sy_refl) ?_
  refine sy_Fs (sy_gf xc99_49 xf99_141 rfl (wh_at hw 0 rfl) rfl (fh_at hX0 10 rfl rfl) sy_refl) ?_
  refine sy_Fs (sy_iconst (v := 0) xc99_52 (by decide) sy_refl) ?_
  refine sy_Fs (sy_aldn xc99_53 rfl rfl sy_refl) ?_
  refine sy_Fs (sy_gf xc99_54 xf99_138 rfl (wh_at hw 0 rfl) rfl (fh_at hX0 11 rfl rfl) sy_refl) ?_
  refine sy_Fs (sy_aldn xc99_57 rfl rfl sy_refl) ?_
  refine sy_Fs (sy_gf xc99_58 xf99_153 rfl (wh_at hw 0 rfl) rfl (fh_at hX0 12 rfl rfl) sy_refl) ?_
  refine sy_Fs (sy_iconst (v := 0) xc99_61 (by decide) sy_refl) ?_
  obtain ⟨w, X0, P1, W1, V1, S1, M1, T1, u1, l1, hC, hw1, hX1x, hu1, hT1⟩ := wr_hash (n := n) (fa := 0) (at_ := 0) (nn := t) (it := 9) (jf := 8) (f := fun j => mv_rd 32 Tp (0 + j)) hw rfl rfl rfl rfl rfl rfl rfl rfl rfl (by decide) (by decide) rfl (by decide) (by decide) hX0 rfl rfl rfl rfl rfl rfl rfl rfl rfl (by decide) (by decide) (by decide) (by omega) hA (fun _ _ => rfl) (by omega)
  refine sy_Fs (sy_callG (kd := 3) (as := [(2, pl 0, 0), (2, pl 8, 0), (0, 0, 0), (0, t, 0), (2, pl 9, 0), (0, 0, 0)]) (S0 := []) (ret := []) xc99_62 (sy_calV (as := [(2, pl 0, 0), (2, pl 8, 0), (0, 0, 0), (0, t, 0), (2, pl 9, 0), (0, 0, 0)]) (S0 := []) xm99_156 rfl rfl) rfl rfl (sy_rcvm xi100 (wh_at hw 0 rfl)) rfl (sy_oka (sy_oks_cons (sy_ok2 (wh_lt hw 0 (by first | decide | assumption))) (sy_oks_cons (sy_ok2 (wh_lt hw 8 (by first | decide | assumption))) (sy_oks_cons (sy_ok0 (by first | decide | assumption | omega | exact mo_rd_lt _ _ | exact mo_add_lt _ _ | exact mo_sub_lt _ _ | exact mo_mul_lt _ _ | exact mo_shl_lt _ _ | exact mo_ushr_lt _ _ | exact mo_or_lt (by decide) (mo_and_lt (mo_rd_lt _ _)) | exact mo_or_lt (mo_shl_lt _ _) (mo_and_lt (mo_rd_lt _ _)))) (sy_oks_cons (sy_ok0 (by first | decide | assumption | omega | exact mo_rd_lt _ _ | exact mo_add_lt _ _ | exact mo_sub_lt _ _ | exact mo_mul_lt _ _ | exact mo_shl_lt _ _ | exact mo_ushr_lt _ _ | exact mo_or_lt (by decide) (mo_and_lt (mo_rd_lt _ _)) | exact mo_or_lt (mo_shl_lt _ _) (mo_and_lt (mo_rd_lt _ _)))) (sy_oks_cons (sy_ok2 (wh_lt hw 9 (by first | decide | assumption))) (sy_oks_cons (sy_ok0 (by first | decide | assumption | omega | exact mo_rd_lt _ _ | exact mo_add_lt _ _ | exact mo_sub_lt _ _ | exact mo_mul_lt _ _ | exact mo_shl_lt _ _ | exact mo_ushr_lt _ _ | exact mo_or_lt (by decide) (mo_and_lt (mo_rd_lt _ _)) | exact mo_or_lt (mo_shl_lt _ _) (mo_and_lt (mo_rd_lt _ _)))) sy_oks_nil)))))) rfl xl100) hC (by decide) (by rw [xl100]; decide) sy_refl) ?_
  replace hw := hw1
  replace hX0 := hX1x
  simp only [List.set_cons_zero, List.set_cons_succ] at hw hX0
  refine sy_Fs (sy_goto (pc' := 95) xc99_65 (by decide) (by decide) sy_refl) ?_
  refine sy_Fs (sy_aldn xc99_95 rfl rfl sy_refl) ?_
  refine sy_Fs (sy_gf xc99_96 xf99_153 rfl (wh_at hw 0 rfl) rfl (fh_at hX0 12 rfl rfl) sy_refl) ?_
  refine sy_Fs (sy_iconst (v := 4) xc99_99 (by decide) sy_refl) ?_
  refine sy_Fs (sy_ildn xc99_100 rfl rfl sy_refl) ?_
  refine sy_Fs (sx_imul (z := (4 * i)) xc99_101 (Nat.mod_eq_of_lt (by omega))) ?_
  refine sy_Fs (sy_callG (kd := 1) (as := [(2, pl 9, 0), (0, (4 * i), 0)]) (S0 := []) (ret := [(0, (wo_4 (mv_rd 32 T1 (4 * i + 0)) (mv_rd 32 T1 (4 * i + 1)) (mv_rd 32 T1 (4 * i + 2)) (mv_rd 32 T1 (4 * i + 3))), 0)]) xc99_102 (sy_calS (as := [(2, pl 9, 0), (0, (4 * i), 0)]) (S0 := []) xm99_164 rfl rfl) rfl rfl rfl rfl (sy_oka (sy_oks_cons (sy_ok2 (wh_lt hw 9 (by first | decide | assumption))) (sy_oks_cons (sy_ok0 (by first | decide | assumption | omega | exact mo_rd_lt _ _ | exact mo_add_lt _ _ | exact mo_sub_lt _ _ | exact mo_mul_lt _ _ | exact mo_shl_lt _ _ | exact mo_ushr_lt _ _ | exact mo_or_lt (by decide) (mo_and_lt (mo_rd_lt _ _)) | exact mo_or_lt (mo_shl_lt _ _) (mo_and_lt (mo_rd_lt _ _)))) sy_oks_nil)) rfl xl108) (wo_run (wh_lt hw 9 (by first | decide | assumption)) (wh_at hw 9 rfl) (by omega)) (by decide) (by rw [xl108]; decide) sy_refl) ?_
  have hT2 : ∀ j, j < 32 → mv_rd 32 T1 j = bk_D (hs_2 (fun j => mv_rd 32 Tp (0 + j)) t) j := by
    intro j hj
    rw [hT1, if_pos ⟨by omega, by omega⟩]
    rfl
  rw [← wb_wo, hT2 _ (by omega), hT2 _ (by omega), hT2 _ (by omega), hT2 _ (by omega)]
  exact sy_Fi xc99_105 xr99 rfl ⟨rfl, X0, P1, W1, V1, S1, M1, T1, u1, l1, hw, hX0⟩
end HM
