/-! THE CLASS'S MINE, I -/
theorem xc9_0 : tt_cd 9 0 = (1, .aload_n 0, 1) := by decide +kernel
theorem xc9_1 : tt_cd 9 1 = (10, .invokespecial 3, 3) := by decide +kernel
theorem xm9_3 : tt_ml 9 3 = (7, 0, 0) := by decide +kernel
theorem xc9_4 : tt_cd 9 4 = (1, .aload_n 0, 1) := by decide +kernel
theorem xc9_5 : tt_cd 9 5 = (4, .bipush 105, 2) := by decide +kernel
theorem xc9_7 : tt_cd 9 7 = (7, .newarray .byte, 2) := by decide +kernel
theorem xc9_9 : tt_cd 9 9 = (6, .putfield 11, 3) := by decide +kernel
theorem xf9_11 : tt_fl 9 11 = (1, 9, 4) := by decide +kernel
theorem xg9_4_2 : mv_fit (tt_fty 9 4) (2, 0, 0) = true := by decide +kernel
theorem xh9_11 : (!(tt_ffin 9 4) || (tt_ini 9 && Nat.beq 1 1)) = true := by decide +kernel
theorem xv9_4 : mv_fit (tt_fty 9 4) (2, 0, 0) = true := by decide +kernel
theorem xc9_12 : tt_cd 9 12 = (1, .aload_n 0, 1) := by decide +kernel
theorem xc9_13 : tt_cd 9 13 = (4, .bipush 32, 2) := by decide +kernel
theorem xc9_15 : tt_cd 9 15 = (7, .newarray .byte, 2) := by decide +kernel
theorem xc9_17 : tt_cd 9 17 = (6, .putfield 15, 3) := by decide +kernel
theorem xf9_15 : tt_fl 9 15 = (1, 9, 5) := by decide +kernel
theorem xg9_5_2 : mv_fit (tt_fty 9 5) (2, 0, 0) = true := by decide +kernel
theorem xh9_15 : (!(tt_ffin 9 5) || (tt_ini 9 && Nat.beq 1 1)) = true := by decide +kernel
theorem xv9_5 : mv_fit (tt_fty 9 5) (2, 0, 0) = true := by decide +kernel
theorem xc9_20 : tt_cd 9 20 = (1, .aload_n 0, 1) := by decide +kernel
theorem xc9_21 : tt_cd 9 21 = (2, .iconst 4, 1) := by decide +kernel
theorem xc9_22 : tt_cd 9 22 = (7, .anewarray 18, 3) := by decide +kernel
theorem xa9_18 : tt_al 9 18 = 8 := by decide +kernel
theorem xc9_25 : tt_cd 9 25 = (6, .putfield 20, 3) := by decide +kernel
theorem xf9_20 : tt_fl 9 20 = (1, 9, 6) := by decide +kernel
theorem xg9_6_2 : mv_fit (tt_fty 9 6) (2, 0, 0) = true := by decide +kernel
theorem xh9_20 : (!(tt_ffin 9 6) || (tt_ini 9 && Nat.beq 1 1)) = true := by decide +kernel
theorem xv9_6 : mv_fit (tt_fty 9 6) (2, 0, 0) = true := by decide +kernel
theorem xc9_28 : tt_cd 9 28 = (1, .aload_n 0, 1) := by decide +kernel
theorem xc9_29 : tt_cd 9 29 = (1, .aload_n 1, 1) := by decide +kernel
theorem xc9_30 : tt_cd 9 30 = (6, .putfield 24, 3) := by decide +kernel
theorem xf9_24 : tt_fl 9 24 = (1, 9, 0) := by decide +kernel
theorem xg9_0_2 : mv_fit (tt_fty 9 0) (2, 0, 0) = true := by decide +kernel
theorem xh9_24 : (!(tt_ffin 9 0) || (tt_ini 9 && Nat.beq 1 1)) = true := by decide +kernel
theorem xv9_0 : mv_fit (tt_fty 9 0) (2, 0, 0) = true := by decide +kernel
theorem xc9_33 : tt_cd 9 33 = (1, .aload_n 0, 1) := by decide +kernel
theorem xc9_34 : tt_cd 9 34 = (1, .iload_n 2, 1) := by decide +kernel
theorem xc9_35 : tt_cd 9 35 = (6, .putfield 28, 3) := by decide +kernel
theorem xf9_28 : tt_fl 9 28 = (1, 9, 1) := by decide +kernel
theorem xh9_28 : (!(tt_ffin 9 1) || (tt_ini 9 && Nat.beq 1 1)) = true := by decide +kernel
theorem xt9_1 : tt_fty 9 1 = .int := by decide +kernel
theorem xc9_38 : tt_cd 9 38 = (1, .aload_n 0, 1) := by decide +kernel
theorem xc9_39 : tt_cd 9 39 = (1, .aload_n 1, 1) := by decide +kernel
theorem xc9_40 : tt_cd 9 40 = (5, .ifnonnull 7, 3) := by decide +kernel
theorem xc9_47 : tt_cd 9 47 = (1, .aload_n 1, 1) := by decide +kernel
theorem xc9_48 : tt_cd 9 48 = (3, .getfield 32, 3) := by decide +kernel
theorem xf9_32 : tt_fl 9 32 = (1, 9, 2) := by decide +kernel
theorem xc9_51 : tt_cd 9 51 = (2, .iconst 1, 1) := by decide +kernel
theorem xc9_52 : tt_cd 9 52 = (2, .iadd, 1) := by decide +kernel
theorem xc9_53 : tt_cd 9 53 = (6, .putfield 32, 3) := by decide +kernel
theorem xh9_32 : (!(tt_ffin 9 2) || (tt_ini 9 && Nat.beq 1 1)) = true := by decide +kernel
theorem xt9_2 : tt_fty 9 2 = .int := by decide +kernel
theorem xc9_56 : tt_cd 9 56 = (9, .return_, 1) := by decide +kernel
theorem xr9 : tt_mr 9 = 0 := by decide +kernel
section DH
variable {n : Nat} {pl : Nat → Nat} {w0 w : mv_T 10} {cs : List mv_C} {vs : List mv_V} {X : Nat} {s : sh_T}
theorem wd_W (hw : wh 30 pl w0 w cs) (c17 : cs[10]? = some (0, 2, 13, X)) (c18 : cs[11]? = some (1, 1, 64, s.2.2.1)) (c19 : cs[12]? = some (1, 0, 64, s.2.2.2.1)) (c20 : cs[13]? = some (1, 0, 8, s.2.2.2.2)) (hX : fh X kS vs) (v0 : vs[0]? = some (2, pl 11, 0)) (v1 : vs[1]? = some (2, pl 12, 0)) (v2 : vs[2]? = some (2, pl 13, 0)) (v4 : vs[4]? = some (0, s.1, 0)) (v5 : vs[5]? = some (0, s.2.1, 0)) : sh_D (pl 10) (pl 11) (pl 12) (pl 13) ∧ mc_F X (pl 11) (pl 12) (pl 13) ∧ sh_W w (pl 10) (pl 11) (pl 12) (pl 13) X s = w := by
  have L : ∀ i, i < 30 → pl i < 1024 := fun i hi => wh_lt hw i hi
  have E : ∀ i j, i < 30 → j < 30 → i ≠ j → pl i ≠ pl j := fun i j hi hj e => wh_ne hw i j hi hj e
  refine ⟨⟨L 10 (by decide), L 11 (by decide), L 12 (by decide), L 13 (by decide), E 10 12 (by decide) (by decide) (by decide), E 10 13 (by decide) (by decide) (by decide), E 12 13 (by decide) (by decide) (by decide), E 11 10 (by decide) (by decide) (by decide), E 11 12 (by decide) (by decide) (by decide), E 11 13 (by decide) (by decide) (by decide)⟩, ⟨fh_at hX 2 rfl v2, fh_at hX 1 rfl v1, fh_at hX 0 rfl v0⟩, ?_⟩
  have x1 : sh_x X s.1 s.2.1 = X := by
    unfold sh_x
    have r1 := mv_enc_dec (by decide) (fh_at hX 4 (j := 11) rfl v4)
    have r2 := mv_enc_dec (by decide) (fh_at hX 5 (j := 12) rfl v5)
    have q1 : mv_wr 136 X 11 (mv_enc (0, s.1, 0)) = X := by
      refine mv_wr_rd ?_
      rw [← r1]
      exact (Nat.mod_eq_of_lt (mv_rd_lt 136 X _)).symm
    rw [q1]
    refine mv_wr_rd ?_
    rw [← r2]
    exact (Nat.mod_eq_of_lt (mv_rd_lt 136 X _)).symm
  show sh_w w (pl 10) (pl 11) (pl 12) (pl 13) (sh_x X s.1 s.2.1) s.2.2.1 s.2.2.2.1 s.2.2.2.2 = w
  rw [x1]
  unfold sh_w
  rw [mv_sg (L 11 (by decide)) (wh_at hw 11 c18)]
  unfold mc_w
  rw [mv_sg (L 10 (by decide)) (wh_at hw 10 c17), mv_sg (L 12 (by decide)) (wh_at hw 12 c19), mv_sg (L 13 (by decide)) (wh_at hw 13 c20)]
theorem wd_O (hw : wh 30 pl w0 w cs) (i : Nat) (hi : i < 30) (h1 : i < 10 ∨ 13 < i) : sh_O (pl 10) (pl 11) (pl 12) (pl 13) (pl i) := ⟨wh_lt hw i hi, wh_ne hw i 10 hi (by decide) (by omega), wh_ne hw i 11 hi (by decide) (by omega), wh_ne hw i 12 hi (by decide) (by omega), wh_ne hw i 13 hi (by decide) (by omega)⟩
theorem wd_wh {s' : sh_T} (hw : wh 30 pl w0 w cs) : wh 30 pl w0 (sh_W w (pl 10) (pl 11) (pl 12) (pl 13) X s') ((((cs.set 11 (1, 1, 64, s'.2.2.1)).set 10 (0, 2, 13, sh_x X s'.1 s'.2.1)).set 12 (1, 0, 64, s'.2.2.2.1)).set 13 (1, 0, 8, s'.2.2.2.2)) := by
  unfold sh_W sh_w mc_w
  exact wh_set (wh_set (wh_set (wh_set hw 11 (by decide) _) 10 (by decide) _) 12 (by decide) _) 13 (by decide) _
theorem wd_fh {u l : Nat} (hX : fh X kS vs) (hu : u < 4294967296) (hl : l < 4294967296) : fh (sh_x X u l) kS ((vs.set 4 (0, u, 0)).set 5 (0, l, 0)) := by
  unfold sh_x
  exact fh_set (fh_set hX (by decide) 4 rfl (sy_ok0 hu)) (by decide) 5 rfl (sy_ok0 hl)
theorem wd_begin (hw : wh 30 pl w0 w cs) (c17 : cs[10]? = some (0, 2, 13, X)) (c18 : cs[11]? = some (1, 1, 64, s.2.2.1)) (c19 : cs[12]? = some (1, 0, 64, s.2.2.2.1)) (c20 : cs[13]? = some (1, 0, 8, s.2.2.2.2)) (hX : fh X kS vs) (v0 : vs[0]? = some (2, pl 11, 0)) (v1 : vs[1]? = some (2, pl 12, 0)) (v2 : vs[2]? = some (2, pl 13, 0)) (v4 : vs[4]? = some (0, s.1, 0)) (v5 : vs[5]? = some (0, s.2.1, 0)) : ∃ (w' : mv_T 10) (X' : Nat), sy_C 14 n 1 18 [(2, pl 10, 0)] w [] w' ∧ wh 30 pl w0 w' (((((cs.set 11 (1, 1, 64, (sh_b s).2.2.1)).set 10 (0, 2, 13, X')).set 12 (1, 0, 64, (sh_b s).2.2.2.1)).set 13 (1, 0, 8, (sh_b s).2.2.2.2))) ∧ fh X' kS ((vs.set 4 (0, (sh_b s).1, 0)).set 5 (0, (sh_b s).2.1, 0)) := by
  obtain ⟨D, F, e⟩ := wd_W hw c17 c18 c19 c20 hX v0 v1 v2 v4 v5
  have h := sh_begin (n := n) (s := s) (w := w) D F
  rw [e] at h
  exact ⟨_, sh_x X (sh_b s).1 (sh_b s).2.1, h, wd_wh (s' := sh_b s) hw, wd_fh hX (by show 0 < 4294967296; decide) (by show 0 < 4294967296; decide)⟩
theorem wd_put {jf qf C fa nn : Nat} (hw : wh 30 pl w0 w cs) (c17 : cs[10]? = some (0, 2, 13, X)) (c18 : cs[11]? = some (1, 1, 64, s.2.2.1)) (c19 : cs[12]? = some (1, 0, 64, s.2.2.2.1)) (c20 : cs[13]? = some (1, 0, 8, s.2.2.2.2)) (hX : fh X kS vs) (v0 : vs[0]? = some (2, pl 11, 0)) (v1 : vs[1]? = some (2, pl 12, 0)) (v2 : vs[2]? = some (2, pl 13, 0)) (v4 : vs[4]? = some (0, s.1, 0)) (v5 : vs[5]? = some (0, s.2.1, 0)) (hs : s.1 < 64) (hl : s.2.1 < 4294967296) (hjf : jf < 10 ∨ 13 < jf) (hjf2 : jf < 30) (cf : cs[jf]? = some (1, 1, qf, C)) (hqf : qf ≤ 2147483647) (hn : fa + nn ≤ qf) : ∃ (w' : mv_T 10) (X' : Nat), sy_C 15 n 1 33 [(2, pl 10, 0), (2, pl jf, 0), (0, fa, 0), (0, nn, 0)] w [] w' ∧ wh 30 pl w0 w' (((((cs.set 11 (1, 1, 64, (sh_p C fa nn s).2.2.1)).set 10 (0, 2, 13, X')).set 12 (1, 0, 64, (sh_p C fa nn s).2.2.2.1)).set 13 (1, 0, 8, (sh_p C fa nn s).2.2.2.2))) ∧ fh X' kS ((vs.set 4 (0, (sh_p C fa nn s).1, 0)).set 5 (0, (sh_p C fa nn s).2.1, 0)) := by
  obtain ⟨D, F, e⟩ := wd_W hw c17 c18 c19 c20 hX v0 v1 v2 v4 v5
  have h := sh_put (n := n) (s := s) (w := w) hs hl D F (wd_O hw jf (by omega) (by omega)) (wh_at hw jf cf) hqf hn
  rw [e] at h
  exact ⟨_, sh_x X (sh_p C fa nn s).1 (sh_p C fa nn s).2.1, h, wd_wh (s' := sh_p C fa nn s) hw, wd_fh hX (Nat.lt_trans (sh_p_ok hs) (by decide)) (mo_add_lt _ _)⟩
theorem wd_twice {it q T I at_ : Nat} (hw : wh 30 pl w0 w cs) (c17 : cs[10]? = some (0, 2, 13, X)) (c18 : cs[11]? = some (1, 1, 64, s.2.2.1)) (c19 : cs[12]? = some (1, 0, 64, s.2.2.2.1)) (c20 : cs[13]? = some (1, 0, 8, s.2.2.2.2)) (hX : fh X kS vs) (v0 : vs[0]? = some (2, pl 11, 0)) (v1 : vs[1]? = some (2, pl 12, 0)) (v2 : vs[2]? = some (2, pl 13, 0)) (v4 : vs[4]? = some (0, s.1, 0)) (v5 : vs[5]? = some (0, s.2.1, 0)) (v3 : vs[3]? = some (2, pl 14, 0)) (c21 : cs[14]? = some (1, 1, 32, I)) (hs : s.1 < 64) (hl : s.2.1 < 4294967296) (hit : it < 10 ∨ 14 < it) (hit2 : it < 30) (ct : cs[it]? = some (1, 1, q, T)) (hq : q ≤ 2147483647) (ha : at_ + 32 ≤ q) : ∃ (w' : mv_T 10) (X' : Nat), sy_C 17 n 3 69 [(2, pl 10, 0), (2, pl it, 0), (0, at_, 0)] w [] w' ∧ wh 30 pl w0 w' (((((((cs.set 14 (1, 1, 32, sh_i s I)).set it (1, 1, q, sh_o T at_ (sh_t s I).2.2.2.2 8)).set 11 (1, 1, 64, (sh_t s I).2.2.1)).set 10 (0, 2, 13, X')).set 12 (1, 0, 64, (sh_t s I).2.2.2.1)).set 13 (1, 0, 8, (sh_t s I).2.2.2.2))) ∧ fh X' kS ((vs.set 4 (0, (sh_t s I).1, 0)).set 5 (0, (sh_t s I).2.1, 0)) := by
  obtain ⟨D, F, e⟩ := wd_W hw c17 c18 c19 c20 hX v0 v1 v2 v4 v5
  have h := sh_twice (n := n) (s := s) (w := w) hs hl D F (fh_at hX 3 rfl v3) (wd_O hw 14 (by decide) (Or.inr (by decide))) (wd_O hw it (by omega) (by omega)) (wh_ne hw 14 it (by decide) (by omega) (by omega)) (wh_at hw 14 c21) (wh_at hw it ct) hq ha
  rw [e] at h
  have hl : (sh_t s I).1 < 4294967296 ∧ (sh_t s I).2.1 < 4294967296 := by
    unfold sh_t
    refine ⟨by rw [wc_eu]; decide, ?_⟩
    rw [wc_el]
    exact mo_add_lt _ _
  generalize sh_t s I = R at h hl ⊢
  generalize sh_i s I = HI at h ⊢
  exact ⟨_, sh_x X R.1 R.2.1, h, wd_wh (s' := R) (wh_set (wh_set hw 14 (by decide) _) it (by omega) _), wd_fh hX hl.1 hl.2⟩
/-- hashOf -/
theorem wd_hash {it jf q T I qf C fa nn : Nat} {f : Nat → Nat} (hw : wh 30 pl w0 w cs) (c17 : cs[10]? = some (0, 2, 13, X)) (c18 : cs[11]? = some (1, 1, 64, s.2.2.1)) (c19 : cs[12]? = some (1, 0, 64, s.2.2.2.1)) (c20 : cs[13]? = some (1, 0, 8, s.2.2.2.2)) (hX : fh X kS vs) (v0 : vs[0]? = some (2, pl 11, 0)) (v1 : vs[1]? = some (2, pl 12, 0)) (v2 : vs[2]? = some (2, pl 13, 0)) (v4 : vs[4]? = some (0, s.1, 0)) (v5 : vs[5]? = some (0, s.2.1, 0)) (v3 : vs[3]? = some (2, pl 14, 0)) (c21 : cs[14]? = some (1, 1, 32, I)) (hit : it < 10 ∨ 14 < it) (hit2 : it < 30) (ct : cs[it]? = some (1, 1, q, T)) (hq : q ≤ 2147483647) (ha : 0 + 32 ≤ q) (hjf : jf < 10 ∨ 14 < jf) (hjf2 : jf < 30) (cf : cs[jf]? = some (1, 1, qf, C)) (hqf : qf ≤ 2147483647) (hn : fa + nn ≤ qf) (hf : ∀ j, j < nn → mv_rd 32 C (fa + j) = f j) (hnn : nn < 1048576) : ∃ (w' : mv_T 10) (X' P' W' S' I' T' u' l' : Nat), sy_C 13 n 4 91 [(2, pl 10, 0), (2, pl jf, 0), (0, fa, 0), (0, nn, 0), (2, pl it, 0)] w [] w' ∧ wh 30 pl w0 w' (((((((cs.set 14 (1, 1, 32, I')).set it (1, 1, q, T')).set 11 (1, 1, 64, P')).set 10 (0, 2, 13, X')).set 12 (1, 0, 64, W')).set 13 (1, 0, 8, S'))) ∧ fh X' kS ((vs.set 4 (0, u', 0)).set 5 (0, l', 0)) ∧ (u' < 64 ∧ l' < 4294967296) ∧ ∀ j, mv_rd 32 T' j = if 0 ≤ j ∧ j < 0 + 32 then bk_D (hs_2 f nn) (j - 0) else mv_rd 32 T j := by
  obtain ⟨D, F, e⟩ := wd_W hw c17 c18 c19 c20 hX v0 v1 v2 v4 v5
  have h := sh_hash (n := n) (s := s) (w := w) D F (fh_at hX 3 rfl v3) (wd_O hw 14 (by decide) (Or.inr (by decide))) (wd_O hw it (by omega) (by omega)) (wh_ne hw 14 it (by decide) (by omega) (by omega)) (wh_at hw 14 c21) (wh_at hw it ct) hq ha (wd_O hw jf (by omega) (by omega)) (wh_at hw jf cf) hqf hn
  rw [e] at h
  have hl : (sh_t (sh_h C fa nn s) I).1 < 64 ∧ (sh_t (sh_h C fa nn s) I).2.1 < 4294967296 := by
    unfold sh_t
    refine ⟨by rw [wc_eu]; decide, ?_⟩
    rw [wc_el]
    exact mo_add_lt _ _
  have hT : ∀ j, mv_rd 32 (sh_o T 0 (sh_t (sh_h C fa nn s) I).2.2.2.2 8) j = if 0 ≤ j ∧ j < 0 + 32 then bk_D (hs_2 f nn) (j - 0) else mv_rd 32 T j := fun j => hs_cls hf hnn j
  generalize sh_t (sh_h C fa nn s) I = R at h hl hT
  generalize sh_i (sh_h C fa nn s) I = HI at h
  generalize sh_o T 0 R.2.2.2.2 8 = TT at h hT
  exact ⟨_, sh_x X R.1 R.2.1, R.2.2.1, R.2.2.2.1, R.2.2.2.2, HI, TT, R.1, R.2.1, h, wd_wh (s' := R) (wh_set (wh_set hw 14 (by decide) _) it (by omega) _), wd_fh hX (by omega) hl.2, hl, hT⟩
end DH
section DC
variable {n : Nat} {pl : Nat → Nat} {w0 w : mv_T 10} {X0 X1 cbs X3 Hd Id Ids Ads Br Dg X10 Sp Sw Ss In Mk Is Os Ks Kp ac su sl kl : Nat}
theorem cd_bi {X20 : Nat} (hw : wh 30 pl w0 w [(0, 1, 13, X0), (0, 8, 11, X1), (3, 6, 40, cbs), (0, 9, 11, X3), (1, 1, 105, Hd), (1, 1, 32, Id), (1, 1, 128, Ids), (1, 1, 480, Ads), (1, 1, 32, Br), (1, 1, 32, Dg), (0, 2, 13, X10), (1, 1, 64, Sp), (1, 0, 64, Sw), (1, 0, 8, Ss), (1, 1, 32, In), (1, 1, 32, Mk), (1, 0, 8, Is), (1, 0, 8, Os), (1, 0, 8, Ks), (1, 1, 64, Kp), (0, 9, 11, X20)]) (hX0 : fh X0 kX [(2, pl 1, 0), (0, 0, 0)]) (hX1 : fh X1 kM [(0, 1, 0), (2, pl 2, 0), (0, 0, 0), (2, pl 10, 0), (2, pl 6, 0), (2, pl 7, 0), (0, ac, 0), (2, pl 8, 0), (2, pl 9, 0)]) (hX3 : fh X3 kB [(2, pl 5, 0), (2, pl 4, 0), (0, 0, 0), (0, 4, 0), (3, 0, 0)]) (hX10 : fh X10 kS [(2, pl 11, 0), (2, pl 12, 0), (2, pl 13, 0), (2, pl 14, 0), (0, su, 0), (0, sl, 0), (2, pl 15, 0), (2, pl 16, 0), (2, pl 17, 0), (0, 1, 0), (2, pl 18, 0), (2, pl 19, 0), (0, kl, 0)]) (hX20 : fh X20 kN [(3, 0, 0), (0, 0, 0), (0, 0, 0), (0, 0, 0), (3, 0, 0), (3, 0, 0), (3, 0, 0), (0, 0, 0), (3, 0, 0), (0, 0, 0), (3, 0, 0)]) (hp20 : pl 20 + 1 = pl 21) (hp21 : pl 21 + 1 = pl 22) (hp22 : pl 22 + 1 = pl 23) (hp23 : pl 23 + 1 = pl 24) (hp24 : pl 24 + 1 = pl 25) (hp25 : pl 25 + 1 = pl 26) (hp26 : pl 26 + 1 = pl 27) (hp27 : pl 27 + 1 = pl 28) (hp28 : pl 28 + 1 = pl 29) (hp29 : pl 29 + 1 = pl 30)  : ∃ ret n' w' dc ds, (ret = [] ∧ n' = pl 24 ∧ dc = 3 ∧ ds = 141 ∧ ∃ Y20 : Nat, wh 30 pl w0 w' [(0, 1, 13, X0), (0, 8, 11, X1), (3, 6, 40, cbs), (0, 9, 11, X3), (1, 1, 105, Hd), (1, 1, 32, Id), (1, 1, 128, Ids), (1, 1, 480, Ads), (1, 1, 32, Br), (1, 1, 32, Dg), (0, 2, 13, X10), (1, 1, 64, Sp), (1, 0, 64, Sw), (1, 0, 8, Ss), (1, 1, 32, In), (1, 1, 32, Mk), (1, 0, 8, Is), (1, 0, 8, Os), (1, 0, 8, Ks), (1, 1, 64, Kp), (0, 9, 11, Y20), (1, 1, 105, 0), (1, 1, 32, 0), (3, 7, 4, 0)] ∧ fh Y20 kN [(2, pl 3, 0), (0, 1, 0), (0, 1, 0), (0, 0, 0), (2, pl 21, 0), (2, pl 22, 0), (2, pl 23, 0), (0, 0, 0), (3, 0, 0), (0, 0, 0), (3, 0, 0)]) ∧ sy_B 9 (pl 21) 1 12 [(2, pl 20, 0), (2, pl 3, 0), (0, 1, 0)] w ret n' w' dc ds := by
  have key : sy_A 9 (pl 21) 1 12 0 [(2, pl 20, 0), (2, pl 3, 0), (0, 1, 0)] [] w (fun ret n' w' dc ds => ret = [] ∧ n' = pl 24 ∧ dc = 3 ∧ ds = 141 ∧ ∃ Y20 : Nat, wh 30 pl w0 w' [(0, 1, 13, X0), (0, 8, 11, X1), (3, 6, 40, cbs), (0, 9, 11, X3), (1, 1, 105, Hd), (1, 1, 32, Id), (1, 1, 128, Ids), (1, 1, 480, Ads), (1, 1, 32, Br), (1, 1, 32, Dg), (0, 2, 13, X10), (1, 1, 64, Sp), (1, 0, 64, Sw), (1, 0, 8, Ss), (1, 1, 32, In), (1, 1, 32, Mk), (1, 0, 8, Is), (1, 0, 8, Os), (1, 0, 8, Ks), (1, 1, 64, Kp), (0, 9, 11, Y20), (1, 1, 105, 0), (1, 1, 32, 0), (3, 7, 4, 0)] ∧ fh Y20 kN [(2, pl 3, 0), (0, 1, 0), (0, 1, 0), (0, 0, 0), (2, pl 21, 0), (2, pl 22, 0), (2, pl 23, 0), (0, 0, 0), (3, 0, 0), (0, 0, 0), (3, 0, 0)]) := by
    refine sy_As (sy_aldn xc9_0 rfl rfl sy_refl) ?_
    refine sy_As (sy_objI xc9_1 xm9_3 rfl (by decide) (by decide) sy_refl) ?_
    refine sy_As (sy_aldn xc9_4 rfl rfl sy_refl) ?_
    refine sy_As (sy_bipush (v := 105) xc9_5 (by decide) (by decide) sy_refl) ?_
    refine ap_b (K := 21) hw rfl (by decide) hp21 xc9_7 (by decide) ?_
    intro w hw
    simp only [List.cons_append, List.nil_append] at hw
    refine sy_Af (i := 20) (q := 4) (v := (2, pl 21, 0)) hw hX20 (by decide) (by decide) rfl (sy_ok2 (wh_lt hw 21 (by first | decide | assumption))) (sx_pf xc9_9 xf9_11 rfl (xg_ref xv9_4) xh9_11 (wh_at hw 20 rfl) rfl (sy_ok2 (wh_lt hw 21 (by first | decide | assumption))) rfl sy_refl) ?_
    intro w X20 hw hX20
    simp only [List.set_cons_zero, List.set_cons_succ] at hw hX20
    refine sy_As (sy_aldn xc9_12 rfl rfl sy_refl) ?_
    refine sy_As (sy_bipush (v := 32) xc9_13 (by decide) (by decide) sy_refl) ?_
    refine ap_b (K := 22) hw rfl (by decide) hp22 xc9_15 (by decide) ?_
    intro w hw
    simp only [List.cons_append, List.nil_append] at hw
    refine sy_Af (i := 20) (q := 5) (v := (2, pl 22, 0)) hw hX20 (by decide) (by decide) rfl (sy_ok2 (wh_lt hw 22 (by first | decide | assumption))) (sx_pf xc9_17 xf9_15 rfl (xg_ref xv9_5) xh9_15 (wh_at hw 20 rfl) rfl (sy_ok2 (wh_lt hw 22 (by first | decide | assumption))) rfl sy_refl) ?_
    intro w X20 hw hX20
    simp only [List.set_cons_zero, List.set_cons_succ] at hw hX20
    refine sy_As (sy_aldn xc9_20 rfl rfl sy_refl) ?_
    refine sy_As (sy_iconst (v := 4) xc9_21 (by decide) sy_refl) ?_
    refine ap_a (K := 23) hw rfl (by decide) hp23 xc9_22 xa9_18 (by decide) ?_
    intro w hw
    simp only [List.cons_append, List.nil_append] at hw
    refine sy_Af (i := 20) (q := 6) (v := (2, pl 23, 0)) hw hX20 (by decide) (by decide) rfl (sy_ok2 (wh_lt hw 23 (by first | decide | assumption))) (sx_pf xc9_25 xf9_20 rfl (xg_ref xv9_6) xh9_20 (wh_at hw 20 rfl) rfl (sy_ok2 (wh_lt hw 23 (by first | decide | assumption))) rfl sy_refl) ?_
    intro w X20 hw hX20
    simp only [List.set_cons_zero, List.set_cons_succ] at hw hX20
    refine sy_As (sy_aldn xc9_28 rfl rfl sy_refl) ?_
    refine sy_As (sy_aldn xc9_29 rfl rfl sy_refl) ?_
    refine sy_Af (i := 20) (q := 0) (v := (2, pl 3, 0)) hw hX20 (by decide) (by decide) rfl (sy_ok2 (wh_lt hw 3 (by first | decide | assumption))) (sx_pf xc9_30 xf9_24 rfl (xg_ref xv9_0) xh9_24 (wh_at hw 20 rfl) rfl (sy_ok2 (wh_lt hw 3 (by first | decide | assumption))) rfl sy_refl) ?_
    intro w X20 hw hX20
    simp only [List.set_cons_zero, List.set_cons_succ] at hw hX20
    refine sy_As (sy_aldn xc9_33 rfl rfl sy_refl) ?_
    refine sy_As (sy_ildn xc9_34 rfl rfl sy_refl) ?_
    refine sy_Af (i := 20) (q := 1) (v := (0, 1, 0)) hw hX20 (by decide) (by decide) rfl (sy_ok0 (by first | decide | assumption | omega | exact mo_rd_lt _ _ | exact mo_add_lt _ _ | exact mo_sub_lt _ _ | exact mo_mul_lt _ _ | exact mo_shl_lt _ _ | exact mo_ushr_lt _ _ | exact mo_or_lt (by decide) (mo_and_lt (mo_rd_lt _ _)) | exact mo_or_lt (mo_shl_lt _ _) (mo_and_lt (mo_rd_lt _ _)))) (sx_pf xc9_35 xf9_28 rfl (xg_int xt9_1) xh9_28 (wh_at hw 20 rfl) rfl (sy_ok0 (by first | decide | assumption | omega | exact mo_rd_lt _ _ | exact mo_add_lt _ _ | exact mo_sub_lt _ _ | exact mo_mul_lt _ _ | exact mo_shl_lt _ _ | exact mo_ushr_lt _ _ | exact mo_or_lt (by decide) (mo_and_lt (mo_rd_lt _ _)) | exact mo_or_lt (mo_shl_lt _ _) (mo_and_lt (mo_rd_lt _ _)))) rfl sy_refl) ?_
    intro w X20 hw hX20
    simp only [List.set_cons_zero, List.set_cons_succ] at hw hX20
    refine sy_As (sy_aldn xc9_38 rfl rfl sy_refl) ?_
    refine sy_As (sy_aldn xc9_39 rfl rfl sy_refl) ?_
    refine sy_As (sy_nnl_t (pc' := 47) xc9_40 (by decide) (by decide) sy_refl) ?_
    refine sy_As (sy_aldn xc9_47 rfl rfl sy_refl) ?_
    refine sy_As (sy_gf xc9_48 xf9_32 rfl (wh_at hw 3 rfl) rfl (fh_at hX3 2 rfl rfl) sy_refl) ?_
    refine sy_As (sy_iconst (v := 1) xc9_51 (by decide) sy_refl) ?_
    refine sy_As (sx_iadd (z := 1) xc9_52 (by decide)) ?_
    refine sy_Af (i := 20) (q := 2) (v := (0, 1, 0)) hw hX20 (by decide) (by decide) rfl (sy_ok0 (by first | decide | assumption | omega | exact mo_rd_lt _ _ | exact mo_add_lt _ _ | exact mo_sub_lt _ _ | exact mo_mul_lt _ _ | exact mo_shl_lt _ _ | exact mo_ushr_lt _ _ | exact mo_or_lt (by decide) (mo_and_lt (mo_rd_lt _ _)) | exact mo_or_lt (mo_shl_lt _ _) (mo_and_lt (mo_rd_lt _ _)))) (sx_pf xc9_53 xf9_32 rfl (xg_int xt9_2) xh9_32 (wh_at hw 20 rfl) rfl (sy_ok0 (by first | decide | assumption | omega | exact mo_rd_lt _ _ | exact mo_add_lt _ _ | exact mo_sub_lt _ _ | exact mo_mul_lt _ _ | exact mo_shl_lt _ _ | exact mo_ushr_lt _ _ | exact mo_or_lt (by decide) (mo_and_lt (mo_rd_lt _ _)) | exact mo_or_lt (mo_shl_lt _ _) (mo_and_lt (mo_rd_lt _ _)))) rfl sy_refl) ?_
    intro w X20 hw hX20
    simp only [List.set_cons_zero, List.set_cons_succ] at hw hX20
    exact sy_Av xc9_56 xr9 ⟨rfl, rfl, rfl, rfl, X20, hw, hX20⟩
  exact sy_Aof (us := []) (sy_oks_cons (sy_ok2 (wh_lt hw 20 (by first | decide | assumption))) (sy_oks_cons (sy_ok2 (wh_lt hw 3 (by first | decide | assumption))) (sy_oks_cons (sy_ok0 (by first | decide | assumption | omega | exact mo_rd_lt _ _ | exact mo_add_lt _ _ | exact mo_sub_lt _ _ | exact mo_mul_lt _ _ | exact mo_shl_lt _ _ | exact mo_ushr_lt _ _ | exact mo_or_lt (by decide) (mo_and_lt (mo_rd_lt _ _)) | exact mo_or_lt (mo_shl_lt _ _) (mo_and_lt (mo_rd_lt _ _)))) sy_oks_nil))) rfl rfl key
end DC
